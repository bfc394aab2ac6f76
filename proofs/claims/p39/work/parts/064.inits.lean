set_option maxHeartbeats 4000000 in
set_option maxRecDepth 100000 in
theorem m_X0_init (l : Launch) (G : va_G) (k : Nat → ClassId) (sz : Nat) (o : Nat)  : Met l yX0_init wsX0_init ({ frames := 1, cells := 0, slots := 0, locals := 20 } : Room) (va_Pc [.ref o] (Wm G k [(o, .inr (0, [.int (nI 0), .int (nI 0), .int (nI 0)]))] sz)) (va_Qv (fun u : Unit => True) (Bm G k (va_A [(o, .inr (0, [.int (nI 0), .int (nI 0), .int (nI 0)]))] sz) (fun u : Unit => [(o, .inr (0, [.int (nI 0), .int (nI 0), .int (-1)]))])) (va_A [(o, .inr (0, [.int (nI 0), .int (nI 0), .int (nI 0)]))] sz)) 0 0 (va_A [(o, .inr (0, [.int (nI 0), .int (nI 0), .int (nI 0)]))] sz) := by
  refine met_mk (cc := cX0_init) (maxL := 1) (ret := none) (by decide) rfl rfl ?_
  intro pX eX sX mX bX meX cX S hr hlk hnm hB ls hl
  obtain ⟨hsz, hP, hK, hN, hD0⟩ := hB
  subst hsz
  have hD := hD0.self (sz := sX.heap.size)
  generalize hAe : va_A [(o, .inr (0, [.int (nI 0), .int (nI 0), .int (nI 0)]))] sX.heap.size = A at hD ⊢
  have hA : ∀ q : Nat, sX.heap.size ≤ q → A q := fun q h => by rw [← hAe]; exact Or.inr h
  have hS : va_S A sX.heap sX.heap [] := va_S.rf
  obtain ⟨hx, hb, hml, hown, hts⟩ := id S
  have hown : sX.vm.findClass RX0 = some mX.cls := hown
  have hl : lv_has ls 1 [(0, .ref o)] := hl
  have lk0 : (Cond.methodLink RX0 3 objectInit).before _ sX = true := hts _ (List.mem_cons_of_mem _ (List.mem_append_left _ (List.mem_of_getElem? (i := 0) rfl)))
  have lk1 : (Cond.instanceMethod objectInit).before _ sX = true := hts _ (List.mem_cons_of_mem _ (List.mem_append_left _ (List.mem_of_getElem? (i := 1) rfl)))
  have lk2 : (Cond.code objectInit ⟨#[0xb1]⟩ 1 none).before _ sX = true := hts _ (List.mem_cons_of_mem _ (List.mem_append_left _ (List.mem_of_getElem? (i := 2) rfl)))
  have lk3 : (Cond.fieldLink RX0 9 "FeatureAnalyzer$Choices" "in" "I").before _ sX = true := hts _ (List.mem_cons_of_mem _ (List.mem_append_left _ (List.mem_of_getElem? (i := 3) rfl)))
  have inX0 : ∀ w ∈ wsX00, w ∈ wsX0_init := fun w h => List.mem_cons_of_mem _ (List.mem_append_right _ (h))
  have lk4 : (Cond.fieldLink RX0 15 "FeatureAnalyzer$Choices" "out" "I").before _ sX = true := hts _ (List.mem_cons_of_mem _ (List.mem_append_left _ (List.mem_of_getElem? (i := 4) rfl)))
  have lk5 : (Cond.fieldLink RX0 18 "FeatureAnalyzer$Choices" "budget" "I").before _ sX = true := hts _ (List.mem_cons_of_mem _ (List.mem_append_left _ (List.mem_of_getElem? (i := 5) rfl)))
  refine lv_aload_n hx hb dX0_init_0 rfl (lv_at hl 0 rfl) ?_
  refine n_oinit hx hb (hml.trans hl.1.symm) hown lk0 lk1 lk2 (Nat.le_of_ble_eq_true rfl) (Nat.le_of_ble_eq_true rfl) dX0_init_1 ?_
  refine lv_aload_n hx hb dX0_init_4 rfl (lv_at hl 0 rfl) ?_
  refine n_iconst 0 (by decide) hx hb dX0_init_5 ?_
  refine va_put (D := G) (ci := 0) (v := .int (nI 0)) (ty := .int) (C := RX0) (T := TX0) (N := 3) hx hb hts inX0 tyX0 tyX0_ok nmX0 hown hK hP hD hS 0 rfl rfl 0 (by decide) lk3 (fun _ h9 => h9) rfl rfl rfl rfl (Nat.le_of_ble_eq_true rfl) dX0_init_6 (fun H locs hP hD hS => ?_)
  have hP : va_P G vwCl [(o, .inr (0, [.int (nI 0), .int (nI 0), .int (nI 0)]))] H := hP
  have hD : va_D A [(o, .inr (0, [.int (nI 0), .int (nI 0), .int (nI 0)]))] := hD
  refine lv_aload_n hx hb dX0_init_9 rfl (lv_at hl 0 rfl) ?_
  refine n_iconst 0 (by decide) hx hb dX0_init_10 ?_
  refine va_put (D := G) (ci := 0) (v := .int (nI 0)) (ty := .int) (C := RX0) (T := TX0) (N := 3) hx hb hts inX0 tyX0 tyX0_ok nmX0 hown hK hP hD hS 0 rfl rfl 1 (by decide) lk4 (fun _ h9 => h9) rfl rfl rfl rfl (Nat.le_of_ble_eq_true rfl) dX0_init_11 (fun H locs hP hD hS => ?_)
  have hP : va_P G vwCl [(o, .inr (0, [.int (nI 0), .int (nI 0), .int (nI 0)]))] H := hP
  have hD : va_D A [(o, .inr (0, [.int (nI 0), .int (nI 0), .int (nI 0)]))] := hD
  refine lv_aload_n hx hb dX0_init_14 rfl (lv_at hl 0 rfl) ?_
  refine lv_iconst (v := -1) hx hb dX0_init_15 (by decide) ?_
  refine va_put (D := G) (ci := 0) (v := .int (-1)) (ty := .int) (C := RX0) (T := TX0) (N := 3) hx hb hts inX0 tyX0 tyX0_ok nmX0 hown hK hP hD hS 0 rfl rfl 2 (by decide) lk5 (fun _ h9 => h9) rfl rfl rfl rfl (Nat.le_of_ble_eq_true rfl) dX0_init_16 (fun H locs hP hD hS => ?_)
  have hP : va_P G vwCl [(o, .inr (0, [.int (nI 0), .int (nI 0), .int (-1)]))] H := hP
  have hD : va_D A [(o, .inr (0, [.int (nI 0), .int (nI 0), .int (-1)]))] := hD
  exact e_mutV (u := ()) hx hb hr hlk hS hP hK hD (by trivial) dX0_init_19
set_option maxHeartbeats 4000000 in
set_option maxRecDepth 100000 in
theorem m_X1_init (l : Launch) (G : va_G) (k : Nat → ClassId) (sz : Nat) (o : Nat)  : Met l yX1_init wsX1_init ({ frames := 1, cells := 1, slots := 2048, locals := 20 } : Room) (va_Pc [.ref o] (Wm G k [(o, .inr (1, [.null, .int (nI 0), .int (bI false)]))] sz)) (va_Qv (fun u : (Nat) => True) (Bm G k (va_A [(o, .inr (1, [.null, .int (nI 0), .int (bI false)]))] sz) (fun u : (Nat) => [(o, .inr (1, [.ref u, .int (nI 0), .int (bI false)])), (u, .inl (k 0, 2048, .inl (nA (fun _ => 0))))])) (va_A [(o, .inr (1, [.null, .int (nI 0), .int (bI false)]))] sz)) 1 2048 (va_A [(o, .inr (1, [.null, .int (nI 0), .int (bI false)]))] sz) := by
  refine met_mk (cc := cX1_init) (maxL := 1) (ret := none) (by decide) rfl rfl ?_
  intro pX eX sX mX bX meX cX S hr hlk hnm hB ls hl
  obtain ⟨hsz, hP, hK, hN, hD0⟩ := hB
  subst hsz
  have hD := hD0.self (sz := sX.heap.size)
  generalize hAe : va_A [(o, .inr (1, [.null, .int (nI 0), .int (bI false)]))] sX.heap.size = A at hD ⊢
  have hA : ∀ q : Nat, sX.heap.size ≤ q → A q := fun q h => by rw [← hAe]; exact Or.inr h
  have hS : va_S A sX.heap sX.heap [] := va_S.rf
  obtain ⟨hx, hb, hml, hown, hts⟩ := id S
  have hown : sX.vm.findClass RX1 = some mX.cls := hown
  have hl : lv_has ls 1 [(0, .ref o)] := hl
  have lk0 : (Cond.methodLink RX1 3 objectInit).before _ sX = true := hts _ (List.mem_cons_of_mem _ (List.mem_append_left _ (List.mem_of_getElem? (i := 0) rfl)))
  have lk1 : (Cond.instanceMethod objectInit).before _ sX = true := hts _ (List.mem_cons_of_mem _ (List.mem_append_left _ (List.mem_of_getElem? (i := 1) rfl)))
  have lk2 : (Cond.code objectInit ⟨#[0xb1]⟩ 1 none).before _ sX = true := hts _ (List.mem_cons_of_mem _ (List.mem_append_left _ (List.mem_of_getElem? (i := 2) rfl)))
  have lk3 : (Cond.arrayClass .int).before _ sX = true := hts _ (List.mem_cons_of_mem _ (List.mem_append_left _ (List.mem_of_getElem? (i := 3) rfl)))
  have lk4 : (Cond.fieldLink RX1 9 "FeatureAnalyzer$ConfigurationRow" "members" "[I").before _ sX = true := hts _ (List.mem_cons_of_mem _ (List.mem_append_left _ (List.mem_of_getElem? (i := 4) rfl)))
  have inX1 : ∀ w ∈ wsX10, w ∈ wsX1_init := fun w h => List.mem_cons_of_mem _ (List.mem_append_right _ (h))
  have lk5 : (Cond.fieldLink RX1 15 "FeatureAnalyzer$ConfigurationRow" "size" "I").before _ sX = true := hts _ (List.mem_cons_of_mem _ (List.mem_append_left _ (List.mem_of_getElem? (i := 5) rfl)))
  have lk6 : (Cond.fieldLink RX1 19 "FeatureAnalyzer$ConfigurationRow" "isKnown" "Z").before _ sX = true := hts _ (List.mem_cons_of_mem _ (List.mem_append_left _ (List.mem_of_getElem? (i := 6) rfl)))
  refine lv_aload_n hx hb dX1_init_0 rfl (lv_at hl 0 rfl) ?_
  refine n_oinit hx hb (hml.trans hl.1.symm) hown lk0 lk1 lk2 (Nat.le_of_ble_eq_true rfl) (Nat.le_of_ble_eq_true rfl) dX1_init_1 ?_
  refine lv_aload_n hx hb dX1_init_4 rfl (lv_at hl 0 rfl) ?_
  refine n_sipush 2048 (by decide) hx hb dX1_init_5 ?_
  refine n_newI (N := 2048) hx hb lk3 hK hP hD hS hA (by decide) (Nat.le_of_ble_eq_true rfl) (Nat.le_of_ble_eq_true rfl) dX1_init_8 (fun q8 H hP hD hS => ?_)
  have hP : va_P G vwCl [(o, .inr (1, [.null, .int (nI 0), .int (bI false)])), (q8, .inl (k 0, 2048, .inl (nA (fun _ => 0))))] H := hP
  have hD : va_D A [(o, .inr (1, [.null, .int (nI 0), .int (bI false)])), (q8, .inl (k 0, 2048, .inl (nA (fun _ => 0))))] := hD
  refine va_putF (D := G) (ci := 1) (v := .ref q8) (ty := .array .int) (C := RX1) (T := TX1) (N := 3) hx hb hts inX1 tyX1 tyX1_ok nmX1 hown hK hP hD hS 0 rfl rfl 0 (by decide) lk4 (fun _ h9 => h9) rfl hnm rfl rfl rfl rfl (Nat.le_of_ble_eq_true rfl) dX1_init_10 (fun H locs hP hD hS => ?_)
  have hP : va_P G vwCl [(o, .inr (1, [.ref q8, .int (nI 0), .int (bI false)])), (q8, .inl (k 0, 2048, .inl (nA (fun _ => 0))))] H := hP
  have hD : va_D A [(o, .inr (1, [.ref q8, .int (nI 0), .int (bI false)])), (q8, .inl (k 0, 2048, .inl (nA (fun _ => 0))))] := hD
  refine lv_aload_n hx hb dX1_init_13 rfl (lv_at hl 0 rfl) ?_
  refine n_iconst 0 (by decide) hx hb dX1_init_14 ?_
  refine va_put (D := G) (ci := 1) (v := .int (nI 0)) (ty := .int) (C := RX1) (T := TX1) (N := 3) hx hb hts inX1 tyX1 tyX1_ok nmX1 hown hK hP hD hS 0 rfl rfl 1 (by decide) lk5 (fun _ h9 => h9) rfl rfl rfl rfl (Nat.le_of_ble_eq_true rfl) dX1_init_15 (fun H locs hP hD hS => ?_)
  have hP : va_P G vwCl [(o, .inr (1, [.ref q8, .int (nI 0), .int (bI false)])), (q8, .inl (k 0, 2048, .inl (nA (fun _ => 0))))] H := hP
  have hD : va_D A [(o, .inr (1, [.ref q8, .int (nI 0), .int (bI false)])), (q8, .inl (k 0, 2048, .inl (nA (fun _ => 0))))] := hD
  refine lv_aload_n hx hb dX1_init_18 rfl (lv_at hl 0 rfl) ?_
  refine n_iconst 0 (by decide) hx hb dX1_init_19 ?_
  refine va_put (D := G) (ci := 1) (v := .int (bI false)) (ty := .boolean) (C := RX1) (T := TX1) (N := 3) hx hb hts inX1 tyX1 tyX1_ok nmX1 hown hK hP hD hS 0 rfl rfl 2 (by decide) lk6 (fun _ h9 => h9) rfl rfl (bI_nar _) (bI_fit _) (Nat.le_of_ble_eq_true rfl) dX1_init_20 (fun H locs hP hD hS => ?_)
  have hP : va_P G vwCl [(o, .inr (1, [.ref q8, .int (nI 0), .int (bI false)])), (q8, .inl (k 0, 2048, .inl (nA (fun _ => 0))))] H := hP
  have hD : va_D A [(o, .inr (1, [.ref q8, .int (nI 0), .int (bI false)])), (q8, .inl (k 0, 2048, .inl (nA (fun _ => 0))))] := hD
  exact e_mutV (u := (q8)) hx hb hr hlk hS hP hK hD (by trivial) dX1_init_23
set_option maxHeartbeats 4000000 in
set_option maxRecDepth 100000 in
theorem m_X2_init (l : Launch) (G : va_G) (k : Nat → ClassId) (sz : Nat) (o : Nat)  : Met l yX2_init wsX2_init ({ frames := 1, cells := 3, slots := 30, locals := 20 } : Room) (va_Pc [.ref o] (Wm G k [(o, .inr (2, [.int (nI 0), .int (nI 0), .null, .null, .null]))] sz)) (va_Qv (fun u : (Nat) × (Nat) × (Nat) => True) (Bm G k (va_A [(o, .inr (2, [.int (nI 0), .int (nI 0), .null, .null, .null]))] sz) (fun u : (Nat) × (Nat) × (Nat) => [(o, .inr (2, [.int (nI 0), .int (nI 0), .ref u.1, .ref u.2.1, .ref u.2.2])), (u.1, .inl (k 0, 10, .inl (nA (fun _ => 0)))), (u.2.1, .inl (k 0, 10, .inl (nA (fun _ => 0)))), (u.2.2, .inl (k 0, 10, .inl (nA (fun _ => 0))))])) (va_A [(o, .inr (2, [.int (nI 0), .int (nI 0), .null, .null, .null]))] sz)) 3 30 (va_A [(o, .inr (2, [.int (nI 0), .int (nI 0), .null, .null, .null]))] sz) := by
  refine met_mk (cc := cX2_init) (maxL := 1) (ret := none) (by decide) rfl rfl ?_
  intro pX eX sX mX bX meX cX S hr hlk hnm hB ls hl
  obtain ⟨hsz, hP, hK, hN, hD0⟩ := hB
  subst hsz
  have hD := hD0.self (sz := sX.heap.size)
  generalize hAe : va_A [(o, .inr (2, [.int (nI 0), .int (nI 0), .null, .null, .null]))] sX.heap.size = A at hD ⊢
  have hA : ∀ q : Nat, sX.heap.size ≤ q → A q := fun q h => by rw [← hAe]; exact Or.inr h
  have hS : va_S A sX.heap sX.heap [] := va_S.rf
  obtain ⟨hx, hb, hml, hown, hts⟩ := id S
  have hown : sX.vm.findClass RX2 = some mX.cls := hown
  have hl : lv_has ls 1 [(0, .ref o)] := hl
  have lk0 : (Cond.methodLink RX2 3 objectInit).before _ sX = true := hts _ (List.mem_cons_of_mem _ (List.mem_append_left _ (List.mem_of_getElem? (i := 0) rfl)))
  have lk1 : (Cond.instanceMethod objectInit).before _ sX = true := hts _ (List.mem_cons_of_mem _ (List.mem_append_left _ (List.mem_of_getElem? (i := 1) rfl)))
  have lk2 : (Cond.code objectInit ⟨#[0xb1]⟩ 1 none).before _ sX = true := hts _ (List.mem_cons_of_mem _ (List.mem_append_left _ (List.mem_of_getElem? (i := 2) rfl)))
  have lk3 : (Cond.fieldLink RX2 9 "FeatureAnalyzer$Constraints" "count" "I").before _ sX = true := hts _ (List.mem_cons_of_mem _ (List.mem_append_left _ (List.mem_of_getElem? (i := 3) rfl)))
  have inX2 : ∀ w ∈ wsX20, w ∈ wsX2_init := fun w h => List.mem_cons_of_mem _ (List.mem_append_right _ (h))
  have lk4 : (Cond.fieldLink RX2 15 "FeatureAnalyzer$Constraints" "on" "I").before _ sX = true := hts _ (List.mem_cons_of_mem _ (List.mem_append_left _ (List.mem_of_getElem? (i := 4) rfl)))
  have lk5 : (Cond.arrayClass .int).before _ sX = true := hts _ (List.mem_cons_of_mem _ (List.mem_append_left _ (List.mem_of_getElem? (i := 5) rfl)))
  have lk6 : (Cond.fieldLink RX2 18 "FeatureAnalyzer$Constraints" "kinds" "[I").before _ sX = true := hts _ (List.mem_cons_of_mem _ (List.mem_append_left _ (List.mem_of_getElem? (i := 6) rfl)))
  have lk7 : (Cond.fieldLink RX2 22 "FeatureAnalyzer$Constraints" "firsts" "[I").before _ sX = true := hts _ (List.mem_cons_of_mem _ (List.mem_append_left _ (List.mem_of_getElem? (i := 7) rfl)))
  have lk8 : (Cond.fieldLink RX2 25 "FeatureAnalyzer$Constraints" "seconds" "[I").before _ sX = true := hts _ (List.mem_cons_of_mem _ (List.mem_append_left _ (List.mem_of_getElem? (i := 8) rfl)))
  refine lv_aload_n hx hb dX2_init_0 rfl (lv_at hl 0 rfl) ?_
  refine n_oinit hx hb (hml.trans hl.1.symm) hown lk0 lk1 lk2 (Nat.le_of_ble_eq_true rfl) (Nat.le_of_ble_eq_true rfl) dX2_init_1 ?_
  refine lv_aload_n hx hb dX2_init_4 rfl (lv_at hl 0 rfl) ?_
  refine n_iconst 0 (by decide) hx hb dX2_init_5 ?_
  refine va_put (D := G) (ci := 2) (v := .int (nI 0)) (ty := .int) (C := RX2) (T := TX2) (N := 5) hx hb hts inX2 tyX2 tyX2_ok nmX2 hown hK hP hD hS 0 rfl rfl 0 (by decide) lk3 (fun _ h9 => h9) rfl rfl rfl rfl (Nat.le_of_ble_eq_true rfl) dX2_init_6 (fun H locs hP hD hS => ?_)
  have hP : va_P G vwCl [(o, .inr (2, [.int (nI 0), .int (nI 0), .null, .null, .null]))] H := hP
  have hD : va_D A [(o, .inr (2, [.int (nI 0), .int (nI 0), .null, .null, .null]))] := hD
  refine lv_aload_n hx hb dX2_init_9 rfl (lv_at hl 0 rfl) ?_
  refine n_iconst 0 (by decide) hx hb dX2_init_10 ?_
  refine va_put (D := G) (ci := 2) (v := .int (nI 0)) (ty := .int) (C := RX2) (T := TX2) (N := 5) hx hb hts inX2 tyX2 tyX2_ok nmX2 hown hK hP hD hS 0 rfl rfl 1 (by decide) lk4 (fun _ h9 => h9) rfl rfl rfl rfl (Nat.le_of_ble_eq_true rfl) dX2_init_11 (fun H locs hP hD hS => ?_)
  have hP : va_P G vwCl [(o, .inr (2, [.int (nI 0), .int (nI 0), .null, .null, .null]))] H := hP
  have hD : va_D A [(o, .inr (2, [.int (nI 0), .int (nI 0), .null, .null, .null]))] := hD
  refine lv_aload_n hx hb dX2_init_14 rfl (lv_at hl 0 rfl) ?_
  refine n_bipush 10 (by decide) hx hb dX2_init_15 ?_
  refine n_newI (N := 10) hx hb lk5 hK hP hD hS hA (by decide) (Nat.le_of_ble_eq_true rfl) (Nat.le_of_ble_eq_true rfl) dX2_init_17 (fun q17 H hP hD hS => ?_)
  have hP : va_P G vwCl [(o, .inr (2, [.int (nI 0), .int (nI 0), .null, .null, .null])), (q17, .inl (k 0, 10, .inl (nA (fun _ => 0))))] H := hP
  have hD : va_D A [(o, .inr (2, [.int (nI 0), .int (nI 0), .null, .null, .null])), (q17, .inl (k 0, 10, .inl (nA (fun _ => 0))))] := hD
  refine va_putF (D := G) (ci := 2) (v := .ref q17) (ty := .array .int) (C := RX2) (T := TX2) (N := 5) hx hb hts inX2 tyX2 tyX2_ok nmX2 hown hK hP hD hS 0 rfl rfl 2 (by decide) lk6 (fun _ h9 => h9) rfl hnm rfl rfl rfl rfl (Nat.le_of_ble_eq_true rfl) dX2_init_19 (fun H locs hP hD hS => ?_)
  have hP : va_P G vwCl [(o, .inr (2, [.int (nI 0), .int (nI 0), .ref q17, .null, .null])), (q17, .inl (k 0, 10, .inl (nA (fun _ => 0))))] H := hP
  have hD : va_D A [(o, .inr (2, [.int (nI 0), .int (nI 0), .ref q17, .null, .null])), (q17, .inl (k 0, 10, .inl (nA (fun _ => 0))))] := hD
  refine lv_aload_n hx hb dX2_init_22 rfl (lv_at hl 0 rfl) ?_
  refine n_bipush 10 (by decide) hx hb dX2_init_23 ?_
  refine n_newI (N := 10) hx hb lk5 hK hP hD hS hA (by decide) (Nat.le_of_ble_eq_true rfl) (Nat.le_of_ble_eq_true rfl) dX2_init_25 (fun q25 H hP hD hS => ?_)
  have hP : va_P G vwCl [(o, .inr (2, [.int (nI 0), .int (nI 0), .ref q17, .null, .null])), (q17, .inl (k 0, 10, .inl (nA (fun _ => 0)))), (q25, .inl (k 0, 10, .inl (nA (fun _ => 0))))] H := hP
  have hD : va_D A [(o, .inr (2, [.int (nI 0), .int (nI 0), .ref q17, .null, .null])), (q17, .inl (k 0, 10, .inl (nA (fun _ => 0)))), (q25, .inl (k 0, 10, .inl (nA (fun _ => 0))))] := hD
  refine va_putF (D := G) (ci := 2) (v := .ref q25) (ty := .array .int) (C := RX2) (T := TX2) (N := 5) hx hb hts inX2 tyX2 tyX2_ok nmX2 hown hK hP hD hS 0 rfl rfl 3 (by decide) lk7 (fun _ h9 => h9) rfl hnm rfl rfl rfl rfl (Nat.le_of_ble_eq_true rfl) dX2_init_27 (fun H locs hP hD hS => ?_)
  have hP : va_P G vwCl [(o, .inr (2, [.int (nI 0), .int (nI 0), .ref q17, .ref q25, .null])), (q17, .inl (k 0, 10, .inl (nA (fun _ => 0)))), (q25, .inl (k 0, 10, .inl (nA (fun _ => 0))))] H := hP
  have hD : va_D A [(o, .inr (2, [.int (nI 0), .int (nI 0), .ref q17, .ref q25, .null])), (q17, .inl (k 0, 10, .inl (nA (fun _ => 0)))), (q25, .inl (k 0, 10, .inl (nA (fun _ => 0))))] := hD
  refine lv_aload_n hx hb dX2_init_30 rfl (lv_at hl 0 rfl) ?_
  refine n_bipush 10 (by decide) hx hb dX2_init_31 ?_
  refine n_newI (N := 10) hx hb lk5 hK hP hD hS hA (by decide) (Nat.le_of_ble_eq_true rfl) (Nat.le_of_ble_eq_true rfl) dX2_init_33 (fun q33 H hP hD hS => ?_)
  have hP : va_P G vwCl [(o, .inr (2, [.int (nI 0), .int (nI 0), .ref q17, .ref q25, .null])), (q17, .inl (k 0, 10, .inl (nA (fun _ => 0)))), (q25, .inl (k 0, 10, .inl (nA (fun _ => 0)))), (q33, .inl (k 0, 10, .inl (nA (fun _ => 0))))] H := hP
  have hD : va_D A [(o, .inr (2, [.int (nI 0), .int (nI 0), .ref q17, .ref q25, .null])), (q17, .inl (k 0, 10, .inl (nA (fun _ => 0)))), (q25, .inl (k 0, 10, .inl (nA (fun _ => 0)))), (q33, .inl (k 0, 10, .inl (nA (fun _ => 0))))] := hD
  refine va_putF (D := G) (ci := 2) (v := .ref q33) (ty := .array .int) (C := RX2) (T := TX2) (N := 5) hx hb hts inX2 tyX2 tyX2_ok nmX2 hown hK hP hD hS 0 rfl rfl 4 (by decide) lk8 (fun _ h9 => h9) rfl hnm rfl rfl rfl rfl (Nat.le_of_ble_eq_true rfl) dX2_init_35 (fun H locs hP hD hS => ?_)
  have hP : va_P G vwCl [(o, .inr (2, [.int (nI 0), .int (nI 0), .ref q17, .ref q25, .ref q33])), (q17, .inl (k 0, 10, .inl (nA (fun _ => 0)))), (q25, .inl (k 0, 10, .inl (nA (fun _ => 0)))), (q33, .inl (k 0, 10, .inl (nA (fun _ => 0))))] H := hP
  have hD : va_D A [(o, .inr (2, [.int (nI 0), .int (nI 0), .ref q17, .ref q25, .ref q33])), (q17, .inl (k 0, 10, .inl (nA (fun _ => 0)))), (q25, .inl (k 0, 10, .inl (nA (fun _ => 0)))), (q33, .inl (k 0, 10, .inl (nA (fun _ => 0))))] := hD
  exact e_mutV (u := (q17, q25, q33)) hx hb hr hlk hS hP hK hD (by trivial) dX2_init_38
set_option maxHeartbeats 4000000 in
set_option maxRecDepth 100000 in
theorem m_X3_init (l : Launch) (G : va_G) (k : Nat → ClassId) (sz : Nat) (o : Nat)  : Met l yX3_init wsX3_init ({ frames := 1, cells := 10, slots := 112, locals := 20 } : Room) (va_Pc [.ref o] (Wm G k [(o, .inr (3, [.int (nI 0), .null, .null, .null, .null, .null, .null]))] sz)) (va_Qv (fun u : (Nat) × (Nat) × (Nat) × (Nat) × (Nat) × (Nat) × (Nat) × (Nat) × (Nat) × (Nat) => True) (Bm G k (va_A [(o, .inr (3, [.int (nI 0), .null, .null, .null, .null, .null, .null]))] sz) (fun u : (Nat) × (Nat) × (Nat) × (Nat) × (Nat) × (Nat) × (Nat) × (Nat) × (Nat) × (Nat) => [(o, .inr (3, [.int (nI 1), .ref u.1, .ref u.2.1, .ref u.2.2.1, .ref u.2.2.2.1, .ref u.2.2.2.2.1, .ref u.2.2.2.2.2.1])), (u.1, .inl (k 0, 12, .inl (nA (fun _ => 0)))), (u.2.1, .inl (k 0, 12, .inl (nA (fun _ => 0)))), (u.2.2.1, .inl (k 0, 12, .inl (nA (fun _ => 0)))), (u.2.2.2.1, .inl (k 0, 12, .inl (nA (fun _ => 0)))), (u.2.2.2.2.1, .inl (k 0, 12, .inl (nA (fun _ => 0)))), (u.2.2.2.2.2.1, .inl (k 2, 4, .inr (.inr (.inr (.inr (q4 (u.2.2.2.2.2.2.1) (u.2.2.2.2.2.2.2.1) (u.2.2.2.2.2.2.2.2.1) (u.2.2.2.2.2.2.2.2.2))))))), (u.2.2.2.2.2.2.1, .inl (k 0, 12, .inl (nA (fun _ => 0)))), (u.2.2.2.2.2.2.2.1, .inl (k 0, 12, .inl (nA (fun _ => 0)))), (u.2.2.2.2.2.2.2.2.1, .inl (k 0, 12, .inl (nA (fun _ => 0)))), (u.2.2.2.2.2.2.2.2.2, .inl (k 0, 12, .inl (nA (fun _ => 0))))])) (va_A [(o, .inr (3, [.int (nI 0), .null, .null, .null, .null, .null, .null]))] sz)) 10 112 (va_A [(o, .inr (3, [.int (nI 0), .null, .null, .null, .null, .null, .null]))] sz) := by
  refine met_mk (cc := cX3_init) (maxL := 1) (ret := none) (by decide) rfl rfl ?_
  intro pX eX sX mX bX meX cX S hr hlk hnm hB ls hl
  obtain ⟨hsz, hP, hK, hN, hD0⟩ := hB
  subst hsz
  have hD := hD0.self (sz := sX.heap.size)
  generalize hAe : va_A [(o, .inr (3, [.int (nI 0), .null, .null, .null, .null, .null, .null]))] sX.heap.size = A at hD ⊢
  have hA : ∀ q : Nat, sX.heap.size ≤ q → A q := fun q h => by rw [← hAe]; exact Or.inr h
  have hS : va_S A sX.heap sX.heap [] := va_S.rf
  obtain ⟨hx, hb, hml, hown, hts⟩ := id S
  have hown : sX.vm.findClass RX3 = some mX.cls := hown
  have hl : lv_has ls 1 [(0, .ref o)] := hl
  have lk0 : (Cond.methodLink RX3 3 objectInit).before _ sX = true := hts _ (List.mem_cons_of_mem _ (List.mem_append_left _ (List.mem_of_getElem? (i := 0) rfl)))
  have lk1 : (Cond.instanceMethod objectInit).before _ sX = true := hts _ (List.mem_cons_of_mem _ (List.mem_append_left _ (List.mem_of_getElem? (i := 1) rfl)))
  have lk2 : (Cond.code objectInit ⟨#[0xb1]⟩ 1 none).before _ sX = true := hts _ (List.mem_cons_of_mem _ (List.mem_append_left _ (List.mem_of_getElem? (i := 2) rfl)))
  have lk3 : (Cond.fieldLink RX3 9 "FeatureAnalyzer$Features" "count" "I").before _ sX = true := hts _ (List.mem_cons_of_mem _ (List.mem_append_left _ (List.mem_of_getElem? (i := 3) rfl)))
  have inX3 : ∀ w ∈ wsX30, w ∈ wsX3_init := fun w h => List.mem_cons_of_mem _ (List.mem_append_right _ (h))
  have lk4 : (Cond.arrayClass .int).before _ sX = true := hts _ (List.mem_cons_of_mem _ (List.mem_append_left _ (List.mem_of_getElem? (i := 4) rfl)))
  have lk5 : (Cond.fieldLink RX3 15 "FeatureAnalyzer$Features" "parents" "[I").before _ sX = true := hts _ (List.mem_cons_of_mem _ (List.mem_append_left _ (List.mem_of_getElem? (i := 5) rfl)))
  have lk6 : (Cond.fieldLink RX3 19 "FeatureAnalyzer$Features" "relations" "[I").before _ sX = true := hts _ (List.mem_cons_of_mem _ (List.mem_append_left _ (List.mem_of_getElem? (i := 6) rfl)))
  have lk7 : (Cond.fieldLink RX3 22 "FeatureAnalyzer$Features" "costs" "[I").before _ sX = true := hts _ (List.mem_cons_of_mem _ (List.mem_append_left _ (List.mem_of_getElem? (i := 7) rfl)))
  have lk8 : (Cond.fieldLink RX3 25 "FeatureAnalyzer$Features" "values" "[I").before _ sX = true := hts _ (List.mem_cons_of_mem _ (List.mem_append_left _ (List.mem_of_getElem? (i := 8) rfl)))
  have lk9 : (Cond.fieldLink RX3 28 "FeatureAnalyzer$Features" "offspring" "[I").before _ sX = true := hts _ (List.mem_cons_of_mem _ (List.mem_append_left _ (List.mem_of_getElem? (i := 9) rfl)))
  have lk10 : (Cond.classLink RX3 31 "[[I").before _ sX = true := hts _ (List.mem_cons_of_mem _ (List.mem_append_left _ (List.mem_of_getElem? (i := 10) rfl)))
  have lk11 : (Cond.fieldLink RX3 33 "FeatureAnalyzer$Features" "children" "[[I").before _ sX = true := hts _ (List.mem_cons_of_mem _ (List.mem_append_left _ (List.mem_of_getElem? (i := 11) rfl)))
  refine lv_aload_n hx hb dX3_init_0 rfl (lv_at hl 0 rfl) ?_
  refine n_oinit hx hb (hml.trans hl.1.symm) hown lk0 lk1 lk2 (Nat.le_of_ble_eq_true rfl) (Nat.le_of_ble_eq_true rfl) dX3_init_1 ?_
  refine lv_aload_n hx hb dX3_init_4 rfl (lv_at hl 0 rfl) ?_
  refine n_iconst 1 (by decide) hx hb dX3_init_5 ?_
  refine va_put (D := G) (ci := 3) (v := .int (nI 1)) (ty := .int) (C := RX3) (T := TX3) (N := 7) hx hb hts inX3 tyX3 tyX3_ok nmX3 hown hK hP hD hS 0 rfl rfl 0 (by decide) lk3 (fun _ h9 => h9) rfl rfl rfl rfl (Nat.le_of_ble_eq_true rfl) dX3_init_6 (fun H locs hP hD hS => ?_)
  have hP : va_P G vwCl [(o, .inr (3, [.int (nI 1), .null, .null, .null, .null, .null, .null]))] H := hP
  have hD : va_D A [(o, .inr (3, [.int (nI 1), .null, .null, .null, .null, .null, .null]))] := hD
  refine lv_aload_n hx hb dX3_init_9 rfl (lv_at hl 0 rfl) ?_
  refine n_bipush 12 (by decide) hx hb dX3_init_10 ?_
  refine n_newI (N := 12) hx hb lk4 hK hP hD hS hA (by decide) (Nat.le_of_ble_eq_true rfl) (Nat.le_of_ble_eq_true rfl) dX3_init_12 (fun q12 H hP hD hS => ?_)
  have hP : va_P G vwCl [(o, .inr (3, [.int (nI 1), .null, .null, .null, .null, .null, .null])), (q12, .inl (k 0, 12, .inl (nA (fun _ => 0))))] H := hP
  have hD : va_D A [(o, .inr (3, [.int (nI 1), .null, .null, .null, .null, .null, .null])), (q12, .inl (k 0, 12, .inl (nA (fun _ => 0))))] := hD
  refine va_putF (D := G) (ci := 3) (v := .ref q12) (ty := .array .int) (C := RX3) (T := TX3) (N := 7) hx hb hts inX3 tyX3 tyX3_ok nmX3 hown hK hP hD hS 0 rfl rfl 1 (by decide) lk5 (fun _ h9 => h9) rfl hnm rfl rfl rfl rfl (Nat.le_of_ble_eq_true rfl) dX3_init_14 (fun H locs hP hD hS => ?_)
  have hP : va_P G vwCl [(o, .inr (3, [.int (nI 1), .ref q12, .null, .null, .null, .null, .null])), (q12, .inl (k 0, 12, .inl (nA (fun _ => 0))))] H := hP
  have hD : va_D A [(o, .inr (3, [.int (nI 1), .ref q12, .null, .null, .null, .null, .null])), (q12, .inl (k 0, 12, .inl (nA (fun _ => 0))))] := hD
  refine lv_aload_n hx hb dX3_init_17 rfl (lv_at hl 0 rfl) ?_
  refine n_bipush 12 (by decide) hx hb dX3_init_18 ?_
  refine n_newI (N := 12) hx hb lk4 hK hP hD hS hA (by decide) (Nat.le_of_ble_eq_true rfl) (Nat.le_of_ble_eq_true rfl) dX3_init_20 (fun q20 H hP hD hS => ?_)
  have hP : va_P G vwCl [(o, .inr (3, [.int (nI 1), .ref q12, .null, .null, .null, .null, .null])), (q12, .inl (k 0, 12, .inl (nA (fun _ => 0)))), (q20, .inl (k 0, 12, .inl (nA (fun _ => 0))))] H := hP
  have hD : va_D A [(o, .inr (3, [.int (nI 1), .ref q12, .null, .null, .null, .null, .null])), (q12, .inl (k 0, 12, .inl (nA (fun _ => 0)))), (q20, .inl (k 0, 12, .inl (nA (fun _ => 0))))] := hD
  refine va_putF (D := G) (ci := 3) (v := .ref q20) (ty := .array .int) (C := RX3) (T := TX3) (N := 7) hx hb hts inX3 tyX3 tyX3_ok nmX3 hown hK hP hD hS 0 rfl rfl 2 (by decide) lk6 (fun _ h9 => h9) rfl hnm rfl rfl rfl rfl (Nat.le_of_ble_eq_true rfl) dX3_init_22 (fun H locs hP hD hS => ?_)
  have hP : va_P G vwCl [(o, .inr (3, [.int (nI 1), .ref q12, .ref q20, .null, .null, .null, .null])), (q12, .inl (k 0, 12, .inl (nA (fun _ => 0)))), (q20, .inl (k 0, 12, .inl (nA (fun _ => 0))))] H := hP
  have hD : va_D A [(o, .inr (3, [.int (nI 1), .ref q12, .ref q20, .null, .null, .null, .null])), (q12, .inl (k 0, 12, .inl (nA (fun _ => 0)))), (q20, .inl (k 0, 12, .inl (nA (fun _ => 0))))] := hD
  refine lv_aload_n hx hb dX3_init_25 rfl (lv_at hl 0 rfl) ?_
  refine n_bipush 12 (by decide) hx hb dX3_init_26 ?_
  refine n_newI (N := 12) hx hb lk4 hK hP hD hS hA (by decide) (Nat.le_of_ble_eq_true rfl) (Nat.le_of_ble_eq_true rfl) dX3_init_28 (fun q28 H hP hD hS => ?_)
  have hP : va_P G vwCl [(o, .inr (3, [.int (nI 1), .ref q12, .ref q20, .null, .null, .null, .null])), (q12, .inl (k 0, 12, .inl (nA (fun _ => 0)))), (q20, .inl (k 0, 12, .inl (nA (fun _ => 0)))), (q28, .inl (k 0, 12, .inl (nA (fun _ => 0))))] H := hP
  have hD : va_D A [(o, .inr (3, [.int (nI 1), .ref q12, .ref q20, .null, .null, .null, .null])), (q12, .inl (k 0, 12, .inl (nA (fun _ => 0)))), (q20, .inl (k 0, 12, .inl (nA (fun _ => 0)))), (q28, .inl (k 0, 12, .inl (nA (fun _ => 0))))] := hD
  refine va_putF (D := G) (ci := 3) (v := .ref q28) (ty := .array .int) (C := RX3) (T := TX3) (N := 7) hx hb hts inX3 tyX3 tyX3_ok nmX3 hown hK hP hD hS 0 rfl rfl 3 (by decide) lk7 (fun _ h9 => h9) rfl hnm rfl rfl rfl rfl (Nat.le_of_ble_eq_true rfl) dX3_init_30 (fun H locs hP hD hS => ?_)
  have hP : va_P G vwCl [(o, .inr (3, [.int (nI 1), .ref q12, .ref q20, .ref q28, .null, .null, .null])), (q12, .inl (k 0, 12, .inl (nA (fun _ => 0)))), (q20, .inl (k 0, 12, .inl (nA (fun _ => 0)))), (q28, .inl (k 0, 12, .inl (nA (fun _ => 0))))] H := hP
  have hD : va_D A [(o, .inr (3, [.int (nI 1), .ref q12, .ref q20, .ref q28, .null, .null, .null])), (q12, .inl (k 0, 12, .inl (nA (fun _ => 0)))), (q20, .inl (k 0, 12, .inl (nA (fun _ => 0)))), (q28, .inl (k 0, 12, .inl (nA (fun _ => 0))))] := hD
  refine lv_aload_n hx hb dX3_init_33 rfl (lv_at hl 0 rfl) ?_
  refine n_bipush 12 (by decide) hx hb dX3_init_34 ?_
  refine n_newI (N := 12) hx hb lk4 hK hP hD hS hA (by decide) (Nat.le_of_ble_eq_true rfl) (Nat.le_of_ble_eq_true rfl) dX3_init_36 (fun q36 H hP hD hS => ?_)
  have hP : va_P G vwCl [(o, .inr (3, [.int (nI 1), .ref q12, .ref q20, .ref q28, .null, .null, .null])), (q12, .inl (k 0, 12, .inl (nA (fun _ => 0)))), (q20, .inl (k 0, 12, .inl (nA (fun _ => 0)))), (q28, .inl (k 0, 12, .inl (nA (fun _ => 0)))), (q36, .inl (k 0, 12, .inl (nA (fun _ => 0))))] H := hP
  have hD : va_D A [(o, .inr (3, [.int (nI 1), .ref q12, .ref q20, .ref q28, .null, .null, .null])), (q12, .inl (k 0, 12, .inl (nA (fun _ => 0)))), (q20, .inl (k 0, 12, .inl (nA (fun _ => 0)))), (q28, .inl (k 0, 12, .inl (nA (fun _ => 0)))), (q36, .inl (k 0, 12, .inl (nA (fun _ => 0))))] := hD
  refine va_putF (D := G) (ci := 3) (v := .ref q36) (ty := .array .int) (C := RX3) (T := TX3) (N := 7) hx hb hts inX3 tyX3 tyX3_ok nmX3 hown hK hP hD hS 0 rfl rfl 4 (by decide) lk8 (fun _ h9 => h9) rfl hnm rfl rfl rfl rfl (Nat.le_of_ble_eq_true rfl) dX3_init_38 (fun H locs hP hD hS => ?_)
  have hP : va_P G vwCl [(o, .inr (3, [.int (nI 1), .ref q12, .ref q20, .ref q28, .ref q36, .null, .null])), (q12, .inl (k 0, 12, .inl (nA (fun _ => 0)))), (q20, .inl (k 0, 12, .inl (nA (fun _ => 0)))), (q28, .inl (k 0, 12, .inl (nA (fun _ => 0)))), (q36, .inl (k 0, 12, .inl (nA (fun _ => 0))))] H := hP
  have hD : va_D A [(o, .inr (3, [.int (nI 1), .ref q12, .ref q20, .ref q28, .ref q36, .null, .null])), (q12, .inl (k 0, 12, .inl (nA (fun _ => 0)))), (q20, .inl (k 0, 12, .inl (nA (fun _ => 0)))), (q28, .inl (k 0, 12, .inl (nA (fun _ => 0)))), (q36, .inl (k 0, 12, .inl (nA (fun _ => 0))))] := hD
  refine lv_aload_n hx hb dX3_init_41 rfl (lv_at hl 0 rfl) ?_
  refine n_bipush 12 (by decide) hx hb dX3_init_42 ?_
  refine n_newI (N := 12) hx hb lk4 hK hP hD hS hA (by decide) (Nat.le_of_ble_eq_true rfl) (Nat.le_of_ble_eq_true rfl) dX3_init_44 (fun q44 H hP hD hS => ?_)
  have hP : va_P G vwCl [(o, .inr (3, [.int (nI 1), .ref q12, .ref q20, .ref q28, .ref q36, .null, .null])), (q12, .inl (k 0, 12, .inl (nA (fun _ => 0)))), (q20, .inl (k 0, 12, .inl (nA (fun _ => 0)))), (q28, .inl (k 0, 12, .inl (nA (fun _ => 0)))), (q36, .inl (k 0, 12, .inl (nA (fun _ => 0)))), (q44, .inl (k 0, 12, .inl (nA (fun _ => 0))))] H := hP
  have hD : va_D A [(o, .inr (3, [.int (nI 1), .ref q12, .ref q20, .ref q28, .ref q36, .null, .null])), (q12, .inl (k 0, 12, .inl (nA (fun _ => 0)))), (q20, .inl (k 0, 12, .inl (nA (fun _ => 0)))), (q28, .inl (k 0, 12, .inl (nA (fun _ => 0)))), (q36, .inl (k 0, 12, .inl (nA (fun _ => 0)))), (q44, .inl (k 0, 12, .inl (nA (fun _ => 0))))] := hD
  refine va_putF (D := G) (ci := 3) (v := .ref q44) (ty := .array .int) (C := RX3) (T := TX3) (N := 7) hx hb hts inX3 tyX3 tyX3_ok nmX3 hown hK hP hD hS 0 rfl rfl 5 (by decide) lk9 (fun _ h9 => h9) rfl hnm rfl rfl rfl rfl (Nat.le_of_ble_eq_true rfl) dX3_init_46 (fun H locs hP hD hS => ?_)
  have hP : va_P G vwCl [(o, .inr (3, [.int (nI 1), .ref q12, .ref q20, .ref q28, .ref q36, .ref q44, .null])), (q12, .inl (k 0, 12, .inl (nA (fun _ => 0)))), (q20, .inl (k 0, 12, .inl (nA (fun _ => 0)))), (q28, .inl (k 0, 12, .inl (nA (fun _ => 0)))), (q36, .inl (k 0, 12, .inl (nA (fun _ => 0)))), (q44, .inl (k 0, 12, .inl (nA (fun _ => 0))))] H := hP
  have hD : va_D A [(o, .inr (3, [.int (nI 1), .ref q12, .ref q20, .ref q28, .ref q36, .ref q44, .null])), (q12, .inl (k 0, 12, .inl (nA (fun _ => 0)))), (q20, .inl (k 0, 12, .inl (nA (fun _ => 0)))), (q28, .inl (k 0, 12, .inl (nA (fun _ => 0)))), (q36, .inl (k 0, 12, .inl (nA (fun _ => 0)))), (q44, .inl (k 0, 12, .inl (nA (fun _ => 0))))] := hD
  refine lv_aload_n hx hb dX3_init_49 rfl (lv_at hl 0 rfl) ?_
  refine n_iconst 4 (by decide) hx hb dX3_init_50 ?_
  refine n_bipush 12 (by decide) hx hb dX3_init_51 ?_
  refine n_mna hx hb hown lk10 hN.2.use lk4 hK hP hD hS hA (Nat.le_of_ble_eq_true rfl) (Nat.le_of_ble_eq_true rfl) dX3_init_53 (fun q53 r53_0 r53_1 r53_2 r53_3 H hP hD hS => ?_)
  have hP : va_P G vwCl [(o, .inr (3, [.int (nI 1), .ref q12, .ref q20, .ref q28, .ref q36, .ref q44, .null])), (q12, .inl (k 0, 12, .inl (nA (fun _ => 0)))), (q20, .inl (k 0, 12, .inl (nA (fun _ => 0)))), (q28, .inl (k 0, 12, .inl (nA (fun _ => 0)))), (q36, .inl (k 0, 12, .inl (nA (fun _ => 0)))), (q44, .inl (k 0, 12, .inl (nA (fun _ => 0)))), (q53, .inl (k 2, 4, .inr (.inr (.inr (.inr (q4 r53_0 r53_1 r53_2 r53_3)))))), (r53_0, .inl (k 0, 12, .inl (nA (fun _ => 0)))), (r53_1, .inl (k 0, 12, .inl (nA (fun _ => 0)))), (r53_2, .inl (k 0, 12, .inl (nA (fun _ => 0)))), (r53_3, .inl (k 0, 12, .inl (nA (fun _ => 0))))] H := hP
  have hD : va_D A [(o, .inr (3, [.int (nI 1), .ref q12, .ref q20, .ref q28, .ref q36, .ref q44, .null])), (q12, .inl (k 0, 12, .inl (nA (fun _ => 0)))), (q20, .inl (k 0, 12, .inl (nA (fun _ => 0)))), (q28, .inl (k 0, 12, .inl (nA (fun _ => 0)))), (q36, .inl (k 0, 12, .inl (nA (fun _ => 0)))), (q44, .inl (k 0, 12, .inl (nA (fun _ => 0)))), (q53, .inl (k 2, 4, .inr (.inr (.inr (.inr (q4 r53_0 r53_1 r53_2 r53_3)))))), (r53_0, .inl (k 0, 12, .inl (nA (fun _ => 0)))), (r53_1, .inl (k 0, 12, .inl (nA (fun _ => 0)))), (r53_2, .inl (k 0, 12, .inl (nA (fun _ => 0)))), (r53_3, .inl (k 0, 12, .inl (nA (fun _ => 0))))] := hD
  refine va_putF (D := G) (ci := 3) (v := .ref q53) (ty := .array (.array .int)) (C := RX3) (T := TX3) (N := 7) hx hb hts inX3 tyX3 tyX3_ok nmX3 hown hK hP hD hS 0 rfl rfl 6 (by decide) lk11 (fun _ h9 => h9) rfl hnm rfl rfl rfl rfl (Nat.le_of_ble_eq_true rfl) dX3_init_57 (fun H locs hP hD hS => ?_)
  have hP : va_P G vwCl [(o, .inr (3, [.int (nI 1), .ref q12, .ref q20, .ref q28, .ref q36, .ref q44, .ref q53])), (q12, .inl (k 0, 12, .inl (nA (fun _ => 0)))), (q20, .inl (k 0, 12, .inl (nA (fun _ => 0)))), (q28, .inl (k 0, 12, .inl (nA (fun _ => 0)))), (q36, .inl (k 0, 12, .inl (nA (fun _ => 0)))), (q44, .inl (k 0, 12, .inl (nA (fun _ => 0)))), (q53, .inl (k 2, 4, .inr (.inr (.inr (.inr (q4 r53_0 r53_1 r53_2 r53_3)))))), (r53_0, .inl (k 0, 12, .inl (nA (fun _ => 0)))), (r53_1, .inl (k 0, 12, .inl (nA (fun _ => 0)))), (r53_2, .inl (k 0, 12, .inl (nA (fun _ => 0)))), (r53_3, .inl (k 0, 12, .inl (nA (fun _ => 0))))] H := hP
  have hD : va_D A [(o, .inr (3, [.int (nI 1), .ref q12, .ref q20, .ref q28, .ref q36, .ref q44, .ref q53])), (q12, .inl (k 0, 12, .inl (nA (fun _ => 0)))), (q20, .inl (k 0, 12, .inl (nA (fun _ => 0)))), (q28, .inl (k 0, 12, .inl (nA (fun _ => 0)))), (q36, .inl (k 0, 12, .inl (nA (fun _ => 0)))), (q44, .inl (k 0, 12, .inl (nA (fun _ => 0)))), (q53, .inl (k 2, 4, .inr (.inr (.inr (.inr (q4 r53_0 r53_1 r53_2 r53_3)))))), (r53_0, .inl (k 0, 12, .inl (nA (fun _ => 0)))), (r53_1, .inl (k 0, 12, .inl (nA (fun _ => 0)))), (r53_2, .inl (k 0, 12, .inl (nA (fun _ => 0)))), (r53_3, .inl (k 0, 12, .inl (nA (fun _ => 0))))] := hD
  exact e_mutV (u := (q12, q20, q28, q36, q44, q53, r53_0, r53_1, r53_2, r53_3)) hx hb hr hlk hS hP hK hD (by trivial) dX3_init_60
set_option maxHeartbeats 4000000 in
set_option maxRecDepth 100000 in
theorem m_X4_init (l : Launch) (G : va_G) (k : Nat → ClassId) (sz : Nat) (o : Nat)  : Met l yX4_init wsX4_init ({ frames := 1, cells := 1, slots := 24, locals := 20 } : Room) (va_Pc [.ref o] (Wm G k [(o, .inr (4, [.null]))] sz)) (va_Qv (fun u : (Nat) => True) (Bm G k (va_A [(o, .inr (4, [.null]))] sz) (fun u : (Nat) => [(o, .inr (4, [.ref u])), (u, .inl (k 0, 24, .inl (nA (fun _ => 0))))])) (va_A [(o, .inr (4, [.null]))] sz)) 1 24 (va_A [(o, .inr (4, [.null]))] sz) := by
  refine met_mk (cc := cX4_init) (maxL := 1) (ret := none) (by decide) rfl rfl ?_
  intro pX eX sX mX bX meX cX S hr hlk hnm hB ls hl
  obtain ⟨hsz, hP, hK, hN, hD0⟩ := hB
  subst hsz
  have hD := hD0.self (sz := sX.heap.size)
  generalize hAe : va_A [(o, .inr (4, [.null]))] sX.heap.size = A at hD ⊢
  have hA : ∀ q : Nat, sX.heap.size ≤ q → A q := fun q h => by rw [← hAe]; exact Or.inr h
  have hS : va_S A sX.heap sX.heap [] := va_S.rf
  obtain ⟨hx, hb, hml, hown, hts⟩ := id S
  have hown : sX.vm.findClass RX4 = some mX.cls := hown
  have hl : lv_has ls 1 [(0, .ref o)] := hl
  have lk0 : (Cond.methodLink RX4 3 objectInit).before _ sX = true := hts _ (List.mem_cons_of_mem _ (List.mem_append_left _ (List.mem_of_getElem? (i := 0) rfl)))
  have lk1 : (Cond.instanceMethod objectInit).before _ sX = true := hts _ (List.mem_cons_of_mem _ (List.mem_append_left _ (List.mem_of_getElem? (i := 1) rfl)))
  have lk2 : (Cond.code objectInit ⟨#[0xb1]⟩ 1 none).before _ sX = true := hts _ (List.mem_cons_of_mem _ (List.mem_append_left _ (List.mem_of_getElem? (i := 2) rfl)))
  have lk3 : (Cond.arrayClass .int).before _ sX = true := hts _ (List.mem_cons_of_mem _ (List.mem_append_left _ (List.mem_of_getElem? (i := 3) rfl)))
  have lk4 : (Cond.fieldLink RX4 9 "FeatureAnalyzer$PairBoard" "shown" "[I").before _ sX = true := hts _ (List.mem_cons_of_mem _ (List.mem_append_left _ (List.mem_of_getElem? (i := 4) rfl)))
  have inX4 : ∀ w ∈ wsX40, w ∈ wsX4_init := fun w h => List.mem_cons_of_mem _ (List.mem_append_right _ (h))
  refine lv_aload_n hx hb dX4_init_0 rfl (lv_at hl 0 rfl) ?_
  refine n_oinit hx hb (hml.trans hl.1.symm) hown lk0 lk1 lk2 (Nat.le_of_ble_eq_true rfl) (Nat.le_of_ble_eq_true rfl) dX4_init_1 ?_
  refine lv_aload_n hx hb dX4_init_4 rfl (lv_at hl 0 rfl) ?_
  refine n_bipush 24 (by decide) hx hb dX4_init_5 ?_
  refine n_newI (N := 24) hx hb lk3 hK hP hD hS hA (by decide) (Nat.le_of_ble_eq_true rfl) (Nat.le_of_ble_eq_true rfl) dX4_init_7 (fun q7 H hP hD hS => ?_)
  have hP : va_P G vwCl [(o, .inr (4, [.null])), (q7, .inl (k 0, 24, .inl (nA (fun _ => 0))))] H := hP
  have hD : va_D A [(o, .inr (4, [.null])), (q7, .inl (k 0, 24, .inl (nA (fun _ => 0))))] := hD
  refine va_putF (D := G) (ci := 4) (v := .ref q7) (ty := .array .int) (C := RX4) (T := TX4) (N := 1) hx hb hts inX4 tyX4 tyX4_ok nmX4 hown hK hP hD hS 0 rfl rfl 0 (by decide) lk4 (fun _ h9 => h9) rfl hnm rfl rfl rfl rfl (Nat.le_of_ble_eq_true rfl) dX4_init_9 (fun H locs hP hD hS => ?_)
  have hP : va_P G vwCl [(o, .inr (4, [.ref q7])), (q7, .inl (k 0, 24, .inl (nA (fun _ => 0))))] H := hP
  have hD : va_D A [(o, .inr (4, [.ref q7])), (q7, .inl (k 0, 24, .inl (nA (fun _ => 0))))] := hD
  exact e_mutV (u := (q7)) hx hb hr hlk hS hP hK hD (by trivial) dX4_init_12
set_option maxHeartbeats 4000000 in
set_option maxRecDepth 100000 in
theorem m_X5_init (l : Launch) (G : va_G) (k : Nat → ClassId) (sz : Nat) (o : Nat)  : Met l yX5_init wsX5_init ({ frames := 1, cells := 1, slots := 0, locals := 20 } : Room) (va_Pc [.ref o] (Wm G k [(o, .inr (5, [.null]))] sz)) (va_Qv (fun u : (Nat) => True) (Bm G k (va_A [(o, .inr (5, [.null]))] sz) (fun u : (Nat) => [(o, .inr (5, [.ref u])), (u, .inl (k 0, 0, .inl (nA (fun _ => 0))))])) (va_A [(o, .inr (5, [.null]))] sz)) 1 0 (va_A [(o, .inr (5, [.null]))] sz) := by
  refine met_mk (cc := cX5_init) (maxL := 1) (ret := none) (by decide) rfl rfl ?_
  intro pX eX sX mX bX meX cX S hr hlk hnm hB ls hl
  obtain ⟨hsz, hP, hK, hN, hD0⟩ := hB
  subst hsz
  have hD := hD0.self (sz := sX.heap.size)
  generalize hAe : va_A [(o, .inr (5, [.null]))] sX.heap.size = A at hD ⊢
  have hA : ∀ q : Nat, sX.heap.size ≤ q → A q := fun q h => by rw [← hAe]; exact Or.inr h
  have hS : va_S A sX.heap sX.heap [] := va_S.rf
  obtain ⟨hx, hb, hml, hown, hts⟩ := id S
  have hown : sX.vm.findClass RX5 = some mX.cls := hown
  have hl : lv_has ls 1 [(0, .ref o)] := hl
  have lk0 : (Cond.methodLink RX5 3 objectInit).before _ sX = true := hts _ (List.mem_cons_of_mem _ (List.mem_append_left _ (List.mem_of_getElem? (i := 0) rfl)))
  have lk1 : (Cond.instanceMethod objectInit).before _ sX = true := hts _ (List.mem_cons_of_mem _ (List.mem_append_left _ (List.mem_of_getElem? (i := 1) rfl)))
  have lk2 : (Cond.code objectInit ⟨#[0xb1]⟩ 1 none).before _ sX = true := hts _ (List.mem_cons_of_mem _ (List.mem_append_left _ (List.mem_of_getElem? (i := 2) rfl)))
  have lk3 : (Cond.arrayClass .int).before _ sX = true := hts _ (List.mem_cons_of_mem _ (List.mem_append_left _ (List.mem_of_getElem? (i := 3) rfl)))
  have lk4 : (Cond.fieldLink RX5 9 "FeatureAnalyzer$ValueLadder" "greatest" "[I").before _ sX = true := hts _ (List.mem_cons_of_mem _ (List.mem_append_left _ (List.mem_of_getElem? (i := 4) rfl)))
  have inX5 : ∀ w ∈ wsX50, w ∈ wsX5_init := fun w h => List.mem_cons_of_mem _ (List.mem_append_right _ (h))
  refine lv_aload_n hx hb dX5_init_0 rfl (lv_at hl 0 rfl) ?_
  refine n_oinit hx hb (hml.trans hl.1.symm) hown lk0 lk1 lk2 (Nat.le_of_ble_eq_true rfl) (Nat.le_of_ble_eq_true rfl) dX5_init_1 ?_
  refine lv_aload_n hx hb dX5_init_4 rfl (lv_at hl 0 rfl) ?_
  refine n_iconst 0 (by decide) hx hb dX5_init_5 ?_
  refine n_newI (N := 0) hx hb lk3 hK hP hD hS hA (by decide) (Nat.le_of_ble_eq_true rfl) (Nat.le_of_ble_eq_true rfl) dX5_init_6 (fun q6 H hP hD hS => ?_)
  have hP : va_P G vwCl [(o, .inr (5, [.null])), (q6, .inl (k 0, 0, .inl (nA (fun _ => 0))))] H := hP
  have hD : va_D A [(o, .inr (5, [.null])), (q6, .inl (k 0, 0, .inl (nA (fun _ => 0))))] := hD
  refine va_put (D := G) (ci := 5) (v := .ref q6) (ty := .array .int) (C := RX5) (T := TX5) (N := 1) hx hb hts inX5 tyX5 tyX5_ok nmX5 hown hK hP hD hS 0 rfl rfl 0 (by decide) lk4 (fun _ h9 => h9) rfl rfl rfl rfl (Nat.le_of_ble_eq_true rfl) dX5_init_8 (fun H locs hP hD hS => ?_)
  have hP : va_P G vwCl [(o, .inr (5, [.ref q6])), (q6, .inl (k 0, 0, .inl (nA (fun _ => 0))))] H := hP
  have hD : va_D A [(o, .inr (5, [.ref q6])), (q6, .inl (k 0, 0, .inl (nA (fun _ => 0))))] := hD
  exact e_mutV (u := (q6)) hx hb hr hlk hS hP hK hD (by trivial) dX5_init_11
