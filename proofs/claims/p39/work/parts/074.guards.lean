set_option maxHeartbeats 4000000 in
set_option maxRecDepth 100000 in
theorem m_X6_requireFeature (l : Launch) (hst : l.stackTraces = false) (G : va_G) (k : Nat → ClassId) (sz : Nat) (h0 h1 n : Nat) (x : Int32) (w1 w2 w3 w4 w5 w6 w7 w8 w9 : Value) (z1 z2 z3 z4 z5 z6 : Value)  : vx_Met l yX6_requireFeature wsX6_requireFeature ({ frames := 6, cells := 1, slots := 6, locals := 90 } : Room) (va_Pc [.ref h0, .int x] (Wx G k [(h0, .inr (6, [.ref h1, w1, w2, w3, w4, w5, w6, w7, w8, w9])), (h1, .inr (3, [.int (nI n), z1, z2, z3, z4, z5, z6]))] sz)) (va_Qv (fun u : Unit => isF x n = true) (Bm G k (va_A [(h0, .inr (6, [.ref h1, w1, w2, w3, w4, w5, w6, w7, w8, w9])), (h1, .inr (3, [.int (nI n), z1, z2, z3, z4, z5, z6]))] sz) (fun u : Unit => [(h0, .inr (6, [.ref h1, w1, w2, w3, w4, w5, w6, w7, w8, w9])), (h1, .inr (3, [.int (nI n), z1, z2, z3, z4, z5, z6]))])) (va_A [(h0, .inr (6, [.ref h1, w1, w2, w3, w4, w5, w6, w7, w8, w9])), (h1, .inr (3, [.int (nI n), z1, z2, z3, z4, z5, z6]))] sz)) (vx_X (fun _ : Unit => True) (Xm G k (va_A [(h0, .inr (6, [.ref h1, w1, w2, w3, w4, w5, w6, w7, w8, w9])), (h1, .inr (3, [.int (nI n), z1, z2, z3, z4, z5, z6]))] sz) (fun (E : String) (u : Unit) => E = eIO ∧ isF x n = false) (fun u : Unit => [(h0, .inr (6, [.ref h1, w1, w2, w3, w4, w5, w6, w7, w8, w9])), (h1, .inr (3, [.int (nI n), z1, z2, z3, z4, z5, z6]))])) (va_A [(h0, .inr (6, [.ref h1, w1, w2, w3, w4, w5, w6, w7, w8, w9])), (h1, .inr (3, [.int (nI n), z1, z2, z3, z4, z5, z6]))] sz)) 1 6 (va_A [(h0, .inr (6, [.ref h1, w1, w2, w3, w4, w5, w6, w7, w8, w9])), (h1, .inr (3, [.int (nI n), z1, z2, z3, z4, z5, z6]))] sz) := by
  refine vmet_mk (cc := cX6_requireFeature) (maxL := 2) (ret := none) (by decide) rfl rfl ?_
  intro pX eX sX mX bX meX cX S hr hlk hnm hno hB ls hl
  obtain ⟨⟨hsz, hP, hK, hN, hD0⟩, hE⟩ := hB
  subst hsz
  have hD := hD0.self (sz := sX.heap.size)
  generalize hAe : va_A [(h0, .inr (6, [.ref h1, w1, w2, w3, w4, w5, w6, w7, w8, w9])), (h1, .inr (3, [.int (nI n), z1, z2, z3, z4, z5, z6]))] sX.heap.size = A at hD hE ⊢
  have hA : ∀ q : Nat, sX.heap.size ≤ q → A q := fun q h => by rw [← hAe]; exact Or.inr h
  have hS : va_S A sX.heap sX.heap [] := va_S.rf
  obtain ⟨hx, hb, hml, hown, hts⟩ := id S
  have hown : sX.vm.findClass RX6 = some mX.cls := hown
  have hl : lv_has ls 2 [(0, .ref h0), (1, .int x)] := hl
  have lk0 : (Cond.fieldLink RX6 12 "FeatureAnalyzer" "features" "LFeatureAnalyzer$Features;").before _ sX = true := hts _ (List.mem_cons_of_mem _ (List.mem_append_left _ (List.mem_append_left _ (List.mem_append_left _ (List.mem_of_getElem? (i := 2) rfl)))))
  have inX6 : ∀ w ∈ wsX60, w ∈ wsX6_requireFeature := fun w h => List.mem_cons_of_mem _ (List.mem_append_left _ (List.mem_append_left _ (List.mem_append_right _ (h))))
  refine lv_iload_n hx hb dX6_requireFeature_0 rfl (lv_at hl 1 rfl) ?_
  refine lv_if_lt (tgt := 15) hx hb dX6_requireFeature_1 (by decide) (fun q1 => ?_) (fun q1 => ?_)
  · skip
    exact x_throw (E := eIO) (Ts := wsX6_requireFeature) 9 (u := ()) hx hb hst hown hts rfl (by decide) (List.mem_cons_of_mem _ (List.mem_append_left _ (List.mem_append_left _ (List.mem_append_left _ (List.mem_of_getElem? (i := 0) rfl))))) (List.mem_cons_of_mem _ (List.mem_append_left _ (List.mem_append_left _ (List.mem_append_left _ (List.mem_of_getElem? (i := 1) rfl))))) (fun w h => List.mem_cons_of_mem _ (List.mem_append_right _ (h))) xbadIO xgoodIO hE hA hP hK hD hS (hl.1.trans hml.symm) hno hlk dX6_requireFeature_15 dX6_requireFeature_18 dX6_requireFeature_19 dX6_requireFeature_21 dX6_requireFeature_24 (Nat.le_of_ble_eq_true rfl) (Nat.le_of_ble_eq_true rfl) (Nat.le_of_ble_eq_true rfl) (Nat.le_of_ble_eq_true rfl) (Nat.le_of_ble_eq_true rfl) (Nat.le_of_ble_eq_true rfl) (by first | exact ⟨rfl, isF_neg q1⟩ | exact ⟨rfl, isF_ge q12⟩)
  · skip
    refine lv_iload_n hx hb dX6_requireFeature_4 rfl (lv_at hl 1 rfl) ?_
    refine lv_aload_n hx hb dX6_requireFeature_5 rfl (lv_at hl 0 rfl) ?_
    refine va_get (D := G) (ci := 6) (v := .ref h1) (C := RX6) (T := TX6) (N := 10) hx hb hts inX6 hown hK hP 0 rfl rfl 0 (by decide) lk0 (fun _ h9 => h9) rfl dX6_requireFeature_6 ?_
    refine cV_i (As := []) S hP hK hN (m_X3_count l G k _ _ _ _ _ _ _ _) gX6_requireFeature_X3_count rfl rfl rfl hdV_X3_count rfl rfl [1] rfl 3 0 rfl rfl rfl rfl hl.1 rfl rfl ⟨Nat.le_of_ble_eq_true rfl, Nat.le_of_ble_eq_true rfl⟩ dX6_requireFeature_9 (fun rX hr1 => ?_)
    subst hr1
    refine lv_icmp_lt (tgt := 25) hx hb dX6_requireFeature_12 (by decide) (fun q12 => ?_) (fun q12 => ?_)
    · skip
      refine vx_ret ?_
      refine W.widen (k := 1) (n := 6) (Nat.le_of_ble_eq_true rfl) (Nat.le_of_ble_eq_true rfl) ?_
      exact e_mutV (u := ()) hx hb hr hlk hS hP hK hD (by exact isF_yes q1 (fun z => Int32.not_le.mpr q12 z)) dX6_requireFeature_25
    · skip
      exact x_throw (E := eIO) (Ts := wsX6_requireFeature) 9 (u := ()) hx hb hst hown hts rfl (by decide) (List.mem_cons_of_mem _ (List.mem_append_left _ (List.mem_append_left _ (List.mem_append_left _ (List.mem_of_getElem? (i := 0) rfl))))) (List.mem_cons_of_mem _ (List.mem_append_left _ (List.mem_append_left _ (List.mem_append_left _ (List.mem_of_getElem? (i := 1) rfl))))) (fun w h => List.mem_cons_of_mem _ (List.mem_append_right _ (h))) xbadIO xgoodIO hE hA hP hK hD hS (hl.1.trans hml.symm) hno hlk dX6_requireFeature_15 dX6_requireFeature_18 dX6_requireFeature_19 dX6_requireFeature_21 dX6_requireFeature_24 (Nat.le_of_ble_eq_true rfl) (Nat.le_of_ble_eq_true rfl) (Nat.le_of_ble_eq_true rfl) (Nat.le_of_ble_eq_true rfl) (Nat.le_of_ble_eq_true rfl) (Nat.le_of_ble_eq_true rfl) (by first | exact ⟨rfl, isF_neg q1⟩ | exact ⟨rfl, isF_ge q12⟩)
set_option maxHeartbeats 4000000 in
set_option maxRecDepth 100000 in
theorem m_X6_requireRelation (l : Launch) (hst : l.stackTraces = false) (G : va_G) (k : Nat → ClassId) (sz : Nat) (x : Int32)  : vx_Met l yX6_requireRelation wsX6_requireRelation ({ frames := 6, cells := 1, slots := 6, locals := 90 } : Room) (va_Pc [.int x] (Wx G k [] sz)) (va_Qv (fun u : Unit => isF x 4 = true) (Bm G k (va_A [] sz) (fun u : Unit => [])) (va_A [] sz)) (vx_X (fun _ : Unit => True) (Xm G k (va_A [] sz) (fun (E : String) (u : Unit) => E = eIA ∧ isF x 4 = false) (fun u : Unit => [])) (va_A [] sz)) 1 6 (va_A [] sz) := by
  refine vmet_mk (cc := cX6_requireRelation) (maxL := 1) (ret := none) (by decide) rfl rfl ?_
  intro pX eX sX mX bX meX cX S hr hlk hnm hno hB ls hl
  obtain ⟨⟨hsz, hP, hK, hN, hD0⟩, hE⟩ := hB
  subst hsz
  have hD := hD0.self (sz := sX.heap.size)
  generalize hAe : va_A [] sX.heap.size = A at hD hE ⊢
  have hA : ∀ q : Nat, sX.heap.size ≤ q → A q := fun q h => by rw [← hAe]; exact Or.inr h
  have hS : va_S A sX.heap sX.heap [] := va_S.rf
  obtain ⟨hx, hb, hml, hown, hts⟩ := id S
  have hown : sX.vm.findClass RX6 = some mX.cls := hown
  have hl : lv_has ls 1 [(0, .int x)] := hl
  refine lv_iload_n hx hb dX6_requireRelation_0 rfl (lv_at hl 0 rfl) ?_
  refine lv_if_lt (tgt := 9) hx hb dX6_requireRelation_1 (by decide) (fun q1 => ?_) (fun q1 => ?_)
  · skip
    exact x_throw (E := eIA) (Ts := wsX6_requireRelation) 10 (u := ()) hx hb hst hown hts rfl (by decide) (List.mem_cons_of_mem _ (List.mem_append_left _ (List.mem_of_getElem? (i := 0) rfl))) (List.mem_cons_of_mem _ (List.mem_append_left _ (List.mem_of_getElem? (i := 1) rfl))) (fun w h => List.mem_cons_of_mem _ (List.mem_append_right _ (h))) xbadIA xgoodIA hE hA hP hK hD hS (hl.1.trans hml.symm) hno hlk dX6_requireRelation_9 dX6_requireRelation_12 dX6_requireRelation_13 dX6_requireRelation_15 dX6_requireRelation_18 (Nat.le_of_ble_eq_true rfl) (Nat.le_of_ble_eq_true rfl) (Nat.le_of_ble_eq_true rfl) (Nat.le_of_ble_eq_true rfl) (Nat.le_of_ble_eq_true rfl) (Nat.le_of_ble_eq_true rfl) (by first | exact ⟨rfl, isF_neg q1⟩ | exact ⟨rfl, isF_big (m := 3) (by decide) q6⟩)
  · skip
    refine lv_iload_n hx hb dX6_requireRelation_4 rfl (lv_at hl 0 rfl) ?_
    refine n_iconst 3 (by decide) hx hb dX6_requireRelation_5 ?_
    refine lv_icmp_le (tgt := 19) hx hb dX6_requireRelation_6 (by decide) (fun q6 => ?_) (fun q6 => ?_)
    · skip
      refine vx_ret ?_
      refine W.widen (k := 1) (n := 6) (Nat.le_of_ble_eq_true rfl) (Nat.le_of_ble_eq_true rfl) ?_
      exact e_mutV (u := ()) hx hb hr hlk hS hP hK hD (by exact isF_in (m := 3) (by decide) q1 q6) dX6_requireRelation_19
    · skip
      exact x_throw (E := eIA) (Ts := wsX6_requireRelation) 10 (u := ()) hx hb hst hown hts rfl (by decide) (List.mem_cons_of_mem _ (List.mem_append_left _ (List.mem_of_getElem? (i := 0) rfl))) (List.mem_cons_of_mem _ (List.mem_append_left _ (List.mem_of_getElem? (i := 1) rfl))) (fun w h => List.mem_cons_of_mem _ (List.mem_append_right _ (h))) xbadIA xgoodIA hE hA hP hK hD hS (hl.1.trans hml.symm) hno hlk dX6_requireRelation_9 dX6_requireRelation_12 dX6_requireRelation_13 dX6_requireRelation_15 dX6_requireRelation_18 (Nat.le_of_ble_eq_true rfl) (Nat.le_of_ble_eq_true rfl) (Nat.le_of_ble_eq_true rfl) (Nat.le_of_ble_eq_true rfl) (Nat.le_of_ble_eq_true rfl) (Nat.le_of_ble_eq_true rfl) (by first | exact ⟨rfl, isF_neg q1⟩ | exact ⟨rfl, isF_big (m := 3) (by decide) q6⟩)
set_option maxHeartbeats 4000000 in
set_option maxRecDepth 100000 in
theorem m_X6_requireConfiguration (l : Launch) (hst : l.stackTraces = false) (G : va_G) (k : Nat → ClassId) (sz : Nat) (h0 h1 n : Nat) (x : Int32) (w1 w2 w3 w4 w5 w6 w7 w8 w9 : Value) (z1 z2 z3 z4 z5 z6 : Value) (hn : n ≤ 12) : vx_Met l yX6_requireConfiguration wsX6_requireConfiguration ({ frames := 6, cells := 1, slots := 6, locals := 90 } : Room) (va_Pc [.ref h0, .int x] (Wx G k [(h0, .inr (6, [.ref h1, w1, w2, w3, w4, w5, w6, w7, w8, w9])), (h1, .inr (3, [.int (nI n), z1, z2, z3, z4, z5, z6]))] sz)) (va_Qv (fun u : Unit => isF x (2 ^ n) = true) (Bm G k (va_A [(h0, .inr (6, [.ref h1, w1, w2, w3, w4, w5, w6, w7, w8, w9])), (h1, .inr (3, [.int (nI n), z1, z2, z3, z4, z5, z6]))] sz) (fun u : Unit => [(h0, .inr (6, [.ref h1, w1, w2, w3, w4, w5, w6, w7, w8, w9])), (h1, .inr (3, [.int (nI n), z1, z2, z3, z4, z5, z6]))])) (va_A [(h0, .inr (6, [.ref h1, w1, w2, w3, w4, w5, w6, w7, w8, w9])), (h1, .inr (3, [.int (nI n), z1, z2, z3, z4, z5, z6]))] sz)) (vx_X (fun _ : Unit => True) (Xm G k (va_A [(h0, .inr (6, [.ref h1, w1, w2, w3, w4, w5, w6, w7, w8, w9])), (h1, .inr (3, [.int (nI n), z1, z2, z3, z4, z5, z6]))] sz) (fun (E : String) (u : Unit) => E = eIA ∧ isF x (2 ^ n) = false) (fun u : Unit => [(h0, .inr (6, [.ref h1, w1, w2, w3, w4, w5, w6, w7, w8, w9])), (h1, .inr (3, [.int (nI n), z1, z2, z3, z4, z5, z6]))])) (va_A [(h0, .inr (6, [.ref h1, w1, w2, w3, w4, w5, w6, w7, w8, w9])), (h1, .inr (3, [.int (nI n), z1, z2, z3, z4, z5, z6]))] sz)) 1 6 (va_A [(h0, .inr (6, [.ref h1, w1, w2, w3, w4, w5, w6, w7, w8, w9])), (h1, .inr (3, [.int (nI n), z1, z2, z3, z4, z5, z6]))] sz) := by
  refine vmet_mk (cc := cX6_requireConfiguration) (maxL := 2) (ret := none) (by decide) rfl rfl ?_
  intro pX eX sX mX bX meX cX S hr hlk hnm hno hB ls hl
  obtain ⟨⟨hsz, hP, hK, hN, hD0⟩, hE⟩ := hB
  subst hsz
  have hD := hD0.self (sz := sX.heap.size)
  generalize hAe : va_A [(h0, .inr (6, [.ref h1, w1, w2, w3, w4, w5, w6, w7, w8, w9])), (h1, .inr (3, [.int (nI n), z1, z2, z3, z4, z5, z6]))] sX.heap.size = A at hD hE ⊢
  have hA : ∀ q : Nat, sX.heap.size ≤ q → A q := fun q h => by rw [← hAe]; exact Or.inr h
  have hS : va_S A sX.heap sX.heap [] := va_S.rf
  obtain ⟨hx, hb, hml, hown, hts⟩ := id S
  have hown : sX.vm.findClass RX6 = some mX.cls := hown
  have hl : lv_has ls 2 [(0, .ref h0), (1, .int x)] := hl
  have lk0 : (Cond.fieldLink RX6 12 "FeatureAnalyzer" "features" "LFeatureAnalyzer$Features;").before _ sX = true := hts _ (List.mem_cons_of_mem _ (List.mem_append_left _ (List.mem_append_left _ (List.mem_append_left _ (List.mem_of_getElem? (i := 2) rfl)))))
  have inX6 : ∀ w ∈ wsX60, w ∈ wsX6_requireConfiguration := fun w h => List.mem_cons_of_mem _ (List.mem_append_left _ (List.mem_append_left _ (List.mem_append_right _ (h))))
  have hpn := pow12 hn
  have hp1 := Nat.one_le_two_pow (n := n)
  have h2n : 2 ^ n = (2 ^ n - 1) + 1 := by omega
  refine lv_iload_n hx hb dX6_requireConfiguration_0 rfl (lv_at hl 1 rfl) ?_
  refine lv_if_lt (tgt := 15) hx hb dX6_requireConfiguration_1 (by decide) (fun q1 => ?_) (fun q1 => ?_)
  · skip
    exact x_throw (E := eIA) (Ts := wsX6_requireConfiguration) 11 (u := ()) hx hb hst hown hts rfl (by decide) (List.mem_cons_of_mem _ (List.mem_append_left _ (List.mem_append_left _ (List.mem_append_left _ (List.mem_of_getElem? (i := 0) rfl))))) (List.mem_cons_of_mem _ (List.mem_append_left _ (List.mem_append_left _ (List.mem_append_left _ (List.mem_of_getElem? (i := 1) rfl))))) (fun w h => List.mem_cons_of_mem _ (List.mem_append_right _ (h))) xbadIA xgoodIA hE hA hP hK hD hS (hl.1.trans hml.symm) hno hlk dX6_requireConfiguration_15 dX6_requireConfiguration_18 dX6_requireConfiguration_19 dX6_requireConfiguration_21 dX6_requireConfiguration_24 (Nat.le_of_ble_eq_true rfl) (Nat.le_of_ble_eq_true rfl) (Nat.le_of_ble_eq_true rfl) (Nat.le_of_ble_eq_true rfl) (Nat.le_of_ble_eq_true rfl) (Nat.le_of_ble_eq_true rfl) (by first | exact ⟨rfl, isF_neg q1⟩ | (refine ⟨rfl, ?_⟩; rw [h2n]; exact isF_big (m := 2 ^ n - 1) (by omega) q12))
  · skip
    refine lv_iload_n hx hb dX6_requireConfiguration_4 rfl (lv_at hl 1 rfl) ?_
    refine lv_aload_n hx hb dX6_requireConfiguration_5 rfl (lv_at hl 0 rfl) ?_
    refine va_get (D := G) (ci := 6) (v := .ref h1) (C := RX6) (T := TX6) (N := 10) hx hb hts inX6 hown hK hP 0 rfl rfl 0 (by decide) lk0 (fun _ h9 => h9) rfl dX6_requireConfiguration_6 ?_
    refine cV_i (As := []) S hP hK hN (m_X3_all l G k _ _ _ _ _ _ _ _ (by omega)) gX6_requireConfiguration_X3_all rfl rfl rfl hdV_X3_all rfl rfl [1] rfl 3 0 rfl rfl rfl rfl hl.1 rfl rfl ⟨Nat.le_of_ble_eq_true rfl, Nat.le_of_ble_eq_true rfl⟩ dX6_requireConfiguration_9 (fun rX hr1 => ?_)
    subst hr1
    refine lv_icmp_le (tgt := 25) hx hb dX6_requireConfiguration_12 (by decide) (fun q12 => ?_) (fun q12 => ?_)
    · skip
      refine vx_ret ?_
      refine W.widen (k := 1) (n := 6) (Nat.le_of_ble_eq_true rfl) (Nat.le_of_ble_eq_true rfl) ?_
      exact e_mutV (u := ()) hx hb hr hlk hS hP hK hD (by rw [h2n]; exact isF_in (m := 2 ^ n - 1) (by omega) q1 q12) dX6_requireConfiguration_25
    · skip
      exact x_throw (E := eIA) (Ts := wsX6_requireConfiguration) 11 (u := ()) hx hb hst hown hts rfl (by decide) (List.mem_cons_of_mem _ (List.mem_append_left _ (List.mem_append_left _ (List.mem_append_left _ (List.mem_of_getElem? (i := 0) rfl))))) (List.mem_cons_of_mem _ (List.mem_append_left _ (List.mem_append_left _ (List.mem_append_left _ (List.mem_of_getElem? (i := 1) rfl))))) (fun w h => List.mem_cons_of_mem _ (List.mem_append_right _ (h))) xbadIA xgoodIA hE hA hP hK hD hS (hl.1.trans hml.symm) hno hlk dX6_requireConfiguration_15 dX6_requireConfiguration_18 dX6_requireConfiguration_19 dX6_requireConfiguration_21 dX6_requireConfiguration_24 (Nat.le_of_ble_eq_true rfl) (Nat.le_of_ble_eq_true rfl) (Nat.le_of_ble_eq_true rfl) (Nat.le_of_ble_eq_true rfl) (Nat.le_of_ble_eq_true rfl) (Nat.le_of_ble_eq_true rfl) (by first | exact ⟨rfl, isF_neg q1⟩ | (refine ⟨rfl, ?_⟩; rw [h2n]; exact isF_big (m := 2 ^ n - 1) (by omega) q12))
set_option maxHeartbeats 4000000 in
set_option maxRecDepth 100000 in
theorem m_X6_memberOf (l : Launch) (hst : l.stackTraces = false) (G : va_G) (k : Nat → ClassId) (sz : Nat) (h0 ra n : Nat) (g : Nat → Nat) (w2 : Value) (x : Int32) (hn : n ≤ 2048) : vx_Met l yX6_memberOf wsX6_memberOf ({ frames := 6, cells := 1, slots := 6, locals := 90 } : Room) (va_Pc [.ref h0, .int x] (Wx G k [(h0, .inr (1, [.ref ra, .int (nI n), w2])), (ra, .inl (k 0, 2048, .inl (nA g)))] sz)) (va_Qi (fun (rX : Int32) (u : Unit) => ∃ v : Nat, rX = (nI v) ∧ isF x n = true ∧ v = g (tn x)) (Bm G k (va_A [(h0, .inr (1, [.ref ra, .int (nI n), w2])), (ra, .inl (k 0, 2048, .inl (nA g)))] sz) (fun u : Unit => [(h0, .inr (1, [.ref ra, .int (nI n), w2])), (ra, .inl (k 0, 2048, .inl (nA g)))])) (va_A [(h0, .inr (1, [.ref ra, .int (nI n), w2])), (ra, .inl (k 0, 2048, .inl (nA g)))] sz)) (vx_X (fun _ : Unit => True) (Xm G k (va_A [(h0, .inr (1, [.ref ra, .int (nI n), w2])), (ra, .inl (k 0, 2048, .inl (nA g)))] sz) (fun (E : String) (u : Unit) => E = eIO ∧ isF x n = false) (fun u : Unit => [(h0, .inr (1, [.ref ra, .int (nI n), w2])), (ra, .inl (k 0, 2048, .inl (nA g)))])) (va_A [(h0, .inr (1, [.ref ra, .int (nI n), w2])), (ra, .inl (k 0, 2048, .inl (nA g)))] sz)) 1 6 (va_A [(h0, .inr (1, [.ref ra, .int (nI n), w2])), (ra, .inl (k 0, 2048, .inl (nA g)))] sz) := by
  refine vmet_mk (cc := cX6_memberOf) (maxL := 2) (ret := (some .int)) (by decide) rfl rfl ?_
  intro pX eX sX mX bX meX cX S hr hlk hnm hno hB ls hl
  obtain ⟨⟨hsz, hP, hK, hN, hD0⟩, hE⟩ := hB
  subst hsz
  have hD := hD0.self (sz := sX.heap.size)
  generalize hAe : va_A [(h0, .inr (1, [.ref ra, .int (nI n), w2])), (ra, .inl (k 0, 2048, .inl (nA g)))] sX.heap.size = A at hD hE ⊢
  have hA : ∀ q : Nat, sX.heap.size ≤ q → A q := fun q h => by rw [← hAe]; exact Or.inr h
  have hS : va_S A sX.heap sX.heap [] := va_S.rf
  obtain ⟨hx, hb, hml, hown, hts⟩ := id S
  have hown : sX.vm.findClass RX6 = some mX.cls := hown
  have hl : lv_has ls 2 [(0, .ref h0), (1, .int x)] := hl
  refine lv_iload_n hx hb dX6_memberOf_0 rfl (lv_at hl 1 rfl) ?_
  refine lv_if_lt (tgt := 12) hx hb dX6_memberOf_1 (by decide) (fun q1 => ?_) (fun q1 => ?_)
  · skip
    exact x_throw (E := eIO) (Ts := wsX6_memberOf) 12 (u := ()) hx hb hst hown hts rfl (by decide) (List.mem_cons_of_mem _ (List.mem_append_left _ (List.mem_append_left _ (List.mem_of_getElem? (i := 0) rfl)))) (List.mem_cons_of_mem _ (List.mem_append_left _ (List.mem_append_left _ (List.mem_of_getElem? (i := 1) rfl)))) (fun w h => List.mem_cons_of_mem _ (List.mem_append_right _ (h))) xbadIO xgoodIO hE hA hP hK hD hS (hl.1.trans hml.symm) hno hlk dX6_memberOf_12 dX6_memberOf_15 dX6_memberOf_16 dX6_memberOf_18 dX6_memberOf_21 (Nat.le_of_ble_eq_true rfl) (Nat.le_of_ble_eq_true rfl) (Nat.le_of_ble_eq_true rfl) (Nat.le_of_ble_eq_true rfl) (Nat.le_of_ble_eq_true rfl) (Nat.le_of_ble_eq_true rfl) (by first | exact ⟨rfl, isF_neg q1⟩ | exact ⟨rfl, isF_ge q9⟩)
  · skip
    refine lv_iload_n hx hb dX6_memberOf_4 rfl (lv_at hl 1 rfl) ?_
    refine lv_aload_n hx hb dX6_memberOf_5 rfl (lv_at hl 0 rfl) ?_
    refine cV_i (As := []) S hP hK hN (m_X1_size l G k _ _ _ _) gX6_memberOf_X1_size rfl rfl rfl hdV_X1_size rfl rfl [0] rfl 1 0 rfl rfl rfl rfl hl.1 rfl rfl ⟨Nat.le_of_ble_eq_true rfl, Nat.le_of_ble_eq_true rfl⟩ dX6_memberOf_6 (fun rX hr1 => ?_)
    subst hr1
    refine lv_icmp_lt (tgt := 22) hx hb dX6_memberOf_9 (by decide) (fun q9 => ?_) (fun q9 => ?_)
    · skip
      have hx9 := isF_lt q1 q9
      obtain ⟨i9, hi9, rfl⟩ := isF_ok (by omega) hx9
      refine lv_aload_n hx hb dX6_memberOf_22 rfl (lv_at hl 0 rfl) ?_
      refine lv_iload_n hx hb dX6_memberOf_23 rfl (lv_at hl 1 rfl) ?_
      refine cV_i (As := [.int (nI i9)]) S hP hK hN (m_X1_at l G k _ _ _ _ _ _ (by omega)) gX6_memberOf_X1_at rfl rfl rfl hdV_X1_at rfl rfl [0, 1] rfl 1 0 rfl rfl rfl rfl hl.1 rfl rfl ⟨Nat.le_of_ble_eq_true rfl, Nat.le_of_ble_eq_true rfl⟩ dX6_memberOf_24 (fun rX hr2 => ?_)
      subst hr2
      refine vx_ret ?_
      refine W.widen (k := 1) (n := 6) (Nat.le_of_ble_eq_true rfl) (Nat.le_of_ble_eq_true rfl) ?_
      exact e_mutI (u := ()) hx hb hr hlk hS hP hK hD (by exact ⟨_, rfl, hx9, (by rw [tn_nI (by omega)])⟩) dX6_memberOf_27
    · skip
      exact x_throw (E := eIO) (Ts := wsX6_memberOf) 12 (u := ()) hx hb hst hown hts rfl (by decide) (List.mem_cons_of_mem _ (List.mem_append_left _ (List.mem_append_left _ (List.mem_of_getElem? (i := 0) rfl)))) (List.mem_cons_of_mem _ (List.mem_append_left _ (List.mem_append_left _ (List.mem_of_getElem? (i := 1) rfl)))) (fun w h => List.mem_cons_of_mem _ (List.mem_append_right _ (h))) xbadIO xgoodIO hE hA hP hK hD hS (hl.1.trans hml.symm) hno hlk dX6_memberOf_12 dX6_memberOf_15 dX6_memberOf_16 dX6_memberOf_18 dX6_memberOf_21 (Nat.le_of_ble_eq_true rfl) (Nat.le_of_ble_eq_true rfl) (Nat.le_of_ble_eq_true rfl) (Nat.le_of_ble_eq_true rfl) (Nat.le_of_ble_eq_true rfl) (Nat.le_of_ble_eq_true rfl) (by first | exact ⟨rfl, isF_neg q1⟩ | exact ⟨rfl, isF_ge q9⟩)
