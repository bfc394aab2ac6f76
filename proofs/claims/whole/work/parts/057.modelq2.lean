set_option maxHeartbeats 4000000 in
set_option maxRecDepth 100000 in
theorem m_X7_bundles (l : Launch) (G : va_G) (k : Nat → ClassId) (sz : Nat) (a : Nat → Nat) (σ : Sg) (x : Mx)  (hok : MOK σ x) : Met l yX7_bundles wsX7_bundles ({ frames := 4, cells := 0, slots := 0, locals := 91 } : Room) (va_Pc [.ref (a 0)] (Wm G k (moW k a σ x) sz)) (va_Qi (fun (rX : Int32) (u : (Mx)) => ∃ v : Int32, rX = v ∧ (0 = 0 → v = nI (r_bun σ)) ∧ MOK (σ) u ∧ mT u = 0) (Bm G k (va_A (moW k a σ x) sz) (fun u : (Mx) => moW k a (σ) u)) (va_A (moW k a σ x) sz)) 0 0 (va_A (moW k a σ x) sz) := by
  refine met_mk (cc := cX7_bundles) (maxL := 5) (ret := (some .int)) (by decide) rfl rfl ?_
  intro pX eX sX mX bX meX cX S hr hlk hnm hB ls hl
  obtain ⟨hsz, hP, hK, hN, hD0⟩ := hB
  subst hsz
  have hD := hD0.self (sz := sX.heap.size)
  generalize hAe : va_A (moW k a σ x) sX.heap.size = A at hD ⊢
  have hA : ∀ q : Nat, sX.heap.size ≤ q → A q := fun q h => by rw [← hAe]; exact Or.inr h
  have hS : va_S A sX.heap sX.heap [] := va_S.rf
  have hP : va_P G vwCl [(a 0, .inr (7, [.int (nI (mT x)), .int (nI (sN σ)), .ref (a 1), .ref (a 2), .ref (a 3), .ref (a 4), .ref (a 5), .int (nI (sK σ)), .ref (a 6), .ref (a 7), .ref (a 8), .ref (a 9), .int (sU σ), .int (bI (mKn x)), .ref (a 10), .ref (a 11), .ref (a 12), .ref (a 13), .int (bI (mSa x)), .int (nI (mPo x)), .int (nI (mSm x)), .ref (a 14), .ref (a 15)])), (a 1, .inl (k 0, 12, .inl (nA (sP σ)))), (a 2, .inl (k 0, 12, .inl (nA (sR σ)))), (a 3, .inl (k 0, 12, .inl (nA (sC σ)))), (a 4, .inl (k 0, 12, .inl (nA (sV σ)))), (a 5, .inl (k 0, 12, .inl (nA (sD σ)))), (a 6, .inl (k 0, 10, .inl (nA (sKd σ)))), (a 7, .inl (k 0, 10, .inl (nA (sA σ)))), (a 8, .inl (k 0, 10, .inl (nA (sB σ)))), (a 9, .inl (k 1, 10, .inl (bA (sO σ)))), (a 10, .inl (k 1, 4096, .inl (bA (mPr x)))), (a 11, .inl (k 1, 4096, .inl (bA (mCa x)))), (a 12, .inl (k 0, 4096, .inl (nA (mCs x)))), (a 13, .inl (k 0, 4096, .inl (nA (mVs x)))), (a 14, .inl (k 0, 576, .inl (nA (mSp x)))), (a 15, .inl (k 1, 576, .inl (bA (mMi x))))] sX.heap := hP
  have hD : va_D A [(a 0, .inr (7, [.int (nI (mT x)), .int (nI (sN σ)), .ref (a 1), .ref (a 2), .ref (a 3), .ref (a 4), .ref (a 5), .int (nI (sK σ)), .ref (a 6), .ref (a 7), .ref (a 8), .ref (a 9), .int (sU σ), .int (bI (mKn x)), .ref (a 10), .ref (a 11), .ref (a 12), .ref (a 13), .int (bI (mSa x)), .int (nI (mPo x)), .int (nI (mSm x)), .ref (a 14), .ref (a 15)])), (a 1, .inl (k 0, 12, .inl (nA (sP σ)))), (a 2, .inl (k 0, 12, .inl (nA (sR σ)))), (a 3, .inl (k 0, 12, .inl (nA (sC σ)))), (a 4, .inl (k 0, 12, .inl (nA (sV σ)))), (a 5, .inl (k 0, 12, .inl (nA (sD σ)))), (a 6, .inl (k 0, 10, .inl (nA (sKd σ)))), (a 7, .inl (k 0, 10, .inl (nA (sA σ)))), (a 8, .inl (k 0, 10, .inl (nA (sB σ)))), (a 9, .inl (k 1, 10, .inl (bA (sO σ)))), (a 10, .inl (k 1, 4096, .inl (bA (mPr x)))), (a 11, .inl (k 1, 4096, .inl (bA (mCa x)))), (a 12, .inl (k 0, 4096, .inl (nA (mCs x)))), (a 13, .inl (k 0, 4096, .inl (nA (mVs x)))), (a 14, .inl (k 0, 576, .inl (nA (mSp x)))), (a 15, .inl (k 1, 576, .inl (bA (mMi x))))] := hD
  obtain ⟨hx, hb, hml, hown, hts⟩ := id S
  have hown : sX.vm.findClass RX7 = some mX.cls := hown
  have hl : lv_has ls 5 [(0, .ref (a 0))] := hl
  have lk0 : (Cond.fieldLink RX7 63 "FeatureAnalyzerModel" "thrown" "I").before _ sX = true := hts _ (List.mem_cons_of_mem _ (List.mem_append_left _ (List.mem_append_left _ (List.mem_of_getElem? (i := 0) rfl))))
  have inX7 : ∀ w ∈ wsX70, w ∈ wsX7_bundles := fun w h => List.mem_cons_of_mem _ (List.mem_append_right _ (h))
  have lk1 : (Cond.fieldLink RX7 9 "FeatureAnalyzerModel" "features" "I").before _ sX = true := hts _ (List.mem_cons_of_mem _ (List.mem_append_left _ (List.mem_append_left _ (List.mem_of_getElem? (i := 1) rfl))))
  obtain ⟨hwf, hkn, hsa⟩ := id hok
  obtain ⟨hn1, hn, hpl, hpa, hrl, hco, hva, hde, hde0, hkc, hkd, hfa, hfb⟩ := id hwf
  have hpn := pow12 hn
  have hp1 := Nat.one_le_two_pow (n := sN σ)
  refine lv_aload_n hx hb dX7_bundles_0 rfl (lv_at hl 0 rfl) ?_
  refine n_iconst 0 (by decide) hx hb dX7_bundles_1 ?_
  refine va_put (D := G) (ci := 7) (v := .int (nI 0)) (ty := .int) (C := RX7) (T := TX7) (N := 23) hx hb hts inX7 tyX7 tyX7_ok nmX7 hown hK hP hD hS 0 rfl rfl 0 (by decide) lk0 (fun _ h9 => h9) rfl rfl rfl rfl (Nat.le_of_ble_eq_true rfl) dX7_bundles_2 (fun H locs hP hD hS => ?_)
  have hP : va_P G vwCl [(a 0, .inr (7, [.int (nI 0), .int (nI (sN σ)), .ref (a 1), .ref (a 2), .ref (a 3), .ref (a 4), .ref (a 5), .int (nI (sK σ)), .ref (a 6), .ref (a 7), .ref (a 8), .ref (a 9), .int (sU σ), .int (bI (mKn x)), .ref (a 10), .ref (a 11), .ref (a 12), .ref (a 13), .int (bI (mSa x)), .int (nI (mPo x)), .int (nI (mSm x)), .ref (a 14), .ref (a 15)])), (a 1, .inl (k 0, 12, .inl (nA (sP σ)))), (a 2, .inl (k 0, 12, .inl (nA (sR σ)))), (a 3, .inl (k 0, 12, .inl (nA (sC σ)))), (a 4, .inl (k 0, 12, .inl (nA (sV σ)))), (a 5, .inl (k 0, 12, .inl (nA (sD σ)))), (a 6, .inl (k 0, 10, .inl (nA (sKd σ)))), (a 7, .inl (k 0, 10, .inl (nA (sA σ)))), (a 8, .inl (k 0, 10, .inl (nA (sB σ)))), (a 9, .inl (k 1, 10, .inl (bA (sO σ)))), (a 10, .inl (k 1, 4096, .inl (bA (mPr x)))), (a 11, .inl (k 1, 4096, .inl (bA (mCa x)))), (a 12, .inl (k 0, 4096, .inl (nA (mCs x)))), (a 13, .inl (k 0, 4096, .inl (nA (mVs x)))), (a 14, .inl (k 0, 576, .inl (nA (mSp x)))), (a 15, .inl (k 1, 576, .inl (bA (mMi x))))] H := hP
  have hD : va_D A [(a 0, .inr (7, [.int (nI 0), .int (nI (sN σ)), .ref (a 1), .ref (a 2), .ref (a 3), .ref (a 4), .ref (a 5), .int (nI (sK σ)), .ref (a 6), .ref (a 7), .ref (a 8), .ref (a 9), .int (sU σ), .int (bI (mKn x)), .ref (a 10), .ref (a 11), .ref (a 12), .ref (a 13), .int (bI (mSa x)), .int (nI (mPo x)), .int (nI (mSm x)), .ref (a 14), .ref (a 15)])), (a 1, .inl (k 0, 12, .inl (nA (sP σ)))), (a 2, .inl (k 0, 12, .inl (nA (sR σ)))), (a 3, .inl (k 0, 12, .inl (nA (sC σ)))), (a 4, .inl (k 0, 12, .inl (nA (sV σ)))), (a 5, .inl (k 0, 12, .inl (nA (sD σ)))), (a 6, .inl (k 0, 10, .inl (nA (sKd σ)))), (a 7, .inl (k 0, 10, .inl (nA (sA σ)))), (a 8, .inl (k 0, 10, .inl (nA (sB σ)))), (a 9, .inl (k 1, 10, .inl (bA (sO σ)))), (a 10, .inl (k 1, 4096, .inl (bA (mPr x)))), (a 11, .inl (k 1, 4096, .inl (bA (mCa x)))), (a 12, .inl (k 0, 4096, .inl (nA (mCs x)))), (a 13, .inl (k 0, 4096, .inl (nA (mVs x)))), (a 14, .inl (k 0, 576, .inl (nA (mSp x)))), (a 15, .inl (k 1, 576, .inl (bA (mMi x))))] := hD
  refine lv_aload_n hx hb dX7_bundles_5 rfl (lv_at hl 0 rfl) ?_
  refine cV_mv (As := []) (wn := fun u : (Nat → Bool) × (Nat → Bool) × (Nat → Nat) × (Nat → Nat) => [(a 0, .inr (7, [.int (nI 0), .int (nI (sN σ)), .ref (a 1), .ref (a 2), .ref (a 3), .ref (a 4), .ref (a 5), .int (nI (sK σ)), .ref (a 6), .ref (a 7), .ref (a 8), .ref (a 9), .int (sU σ), .int (bI true), .ref (a 10), .ref (a 11), .ref (a 12), .ref (a 13), .int (bI (mSa x)), .int (nI (mPo x)), .int (nI (mSm x)), .ref (a 14), .ref (a 15)])), (a 1, .inl (k 0, 12, .inl (nA (sP σ)))), (a 2, .inl (k 0, 12, .inl (nA (sR σ)))), (a 3, .inl (k 0, 12, .inl (nA (sC σ)))), (a 4, .inl (k 0, 12, .inl (nA (sV σ)))), (a 5, .inl (k 0, 12, .inl (nA (sD σ)))), (a 6, .inl (k 0, 10, .inl (nA (sKd σ)))), (a 7, .inl (k 0, 10, .inl (nA (sA σ)))), (a 8, .inl (k 0, 10, .inl (nA (sB σ)))), (a 9, .inl (k 1, 10, .inl (bA (sO σ)))), (a 10, .inl (k 1, 4096, .inl (bA u.1))), (a 11, .inl (k 1, 4096, .inl (bA u.2.1))), (a 12, .inl (k 0, 4096, .inl (nA u.2.2.1))), (a 13, .inl (k 0, 4096, .inl (nA u.2.2.2))), (a 14, .inl (k 0, 576, .inl (nA (mSp x)))), (a 15, .inl (k 1, 576, .inl (bA (mMi x))))]) S hP hK hN hD hS hA (m_X7_know l G k _ a σ _ _ _ _ _ _ _ _ _ _ _ (by assumption) (by assumption)) gX7_bundles_X7_know rfl rfl rfl hdV_X7_know rfl rfl [0, 1, 2, 3, 4, 5, 6, 7, 8, 9, 10, 11, 12, 13, 14, 15] [] [0, 1, 2, 3, 4, 5, 6, 7, 8, 9, 10, 11, 12, 13, 14, 15] rfl rfl rfl rfl rfl (by decide) (fun _ => rfl) (fun _ => rfl) rfl 7 0 rfl rfl rfl rfl hl.1 rfl rfl ⟨Nat.le_of_ble_eq_true rfl, Nat.le_of_ble_eq_true rfl⟩ dX7_bundles_6 (fun u H locs hw1 hP hD hS => ?_)
  obtain ⟨pr91, ca91, cs91, vs91⟩ := u
  try dsimp only at hw1
  have hk1 := hw1
  have hP : va_P G vwCl [(a 0, .inr (7, [.int (nI 0), .int (nI (sN σ)), .ref (a 1), .ref (a 2), .ref (a 3), .ref (a 4), .ref (a 5), .int (nI (sK σ)), .ref (a 6), .ref (a 7), .ref (a 8), .ref (a 9), .int (sU σ), .int (bI true), .ref (a 10), .ref (a 11), .ref (a 12), .ref (a 13), .int (bI (mSa x)), .int (nI (mPo x)), .int (nI (mSm x)), .ref (a 14), .ref (a 15)])), (a 1, .inl (k 0, 12, .inl (nA (sP σ)))), (a 2, .inl (k 0, 12, .inl (nA (sR σ)))), (a 3, .inl (k 0, 12, .inl (nA (sC σ)))), (a 4, .inl (k 0, 12, .inl (nA (sV σ)))), (a 5, .inl (k 0, 12, .inl (nA (sD σ)))), (a 6, .inl (k 0, 10, .inl (nA (sKd σ)))), (a 7, .inl (k 0, 10, .inl (nA (sA σ)))), (a 8, .inl (k 0, 10, .inl (nA (sB σ)))), (a 9, .inl (k 1, 10, .inl (bA (sO σ)))), (a 10, .inl (k 1, 4096, .inl (bA pr91))), (a 11, .inl (k 1, 4096, .inl (bA ca91))), (a 12, .inl (k 0, 4096, .inl (nA cs91))), (a 13, .inl (k 0, 4096, .inl (nA vs91))), (a 14, .inl (k 0, 576, .inl (nA (mSp x)))), (a 15, .inl (k 1, 576, .inl (bA (mMi x))))] H := hP
  have hD : va_D A [(a 0, .inr (7, [.int (nI 0), .int (nI (sN σ)), .ref (a 1), .ref (a 2), .ref (a 3), .ref (a 4), .ref (a 5), .int (nI (sK σ)), .ref (a 6), .ref (a 7), .ref (a 8), .ref (a 9), .int (sU σ), .int (bI true), .ref (a 10), .ref (a 11), .ref (a 12), .ref (a 13), .int (bI (mSa x)), .int (nI (mPo x)), .int (nI (mSm x)), .ref (a 14), .ref (a 15)])), (a 1, .inl (k 0, 12, .inl (nA (sP σ)))), (a 2, .inl (k 0, 12, .inl (nA (sR σ)))), (a 3, .inl (k 0, 12, .inl (nA (sC σ)))), (a 4, .inl (k 0, 12, .inl (nA (sV σ)))), (a 5, .inl (k 0, 12, .inl (nA (sD σ)))), (a 6, .inl (k 0, 10, .inl (nA (sKd σ)))), (a 7, .inl (k 0, 10, .inl (nA (sA σ)))), (a 8, .inl (k 0, 10, .inl (nA (sB σ)))), (a 9, .inl (k 1, 10, .inl (bA (sO σ)))), (a 10, .inl (k 1, 4096, .inl (bA pr91))), (a 11, .inl (k 1, 4096, .inl (bA ca91))), (a 12, .inl (k 0, 4096, .inl (nA cs91))), (a 13, .inl (k 0, 4096, .inl (nA vs91))), (a 14, .inl (k 0, 576, .inl (nA (mSp x)))), (a 15, .inl (k 1, 576, .inl (bA (mMi x))))] := hD
  refine n_iconst 0 (by decide) hx hb dX7_bundles_9 ?_
  refine lv_istore_n (lv' := [(1, .int (nI 0)), (0, .ref (a 0))]) hx hb dX7_bundles_10 rfl hl (by decide) rfl (fun ls hl => ?_)
  refine n_iconst 0 (by decide) hx hb dX7_bundles_11 ?_
  refine lv_istore_n (lv' := [(2, .int (nI 0)), (1, .int (nI 0)), (0, .ref (a 0))]) hx hb dX7_bundles_12 rfl hl (by decide) rfl (fun ls hl => ?_)
  have L13 : ∀ (NN : Nat) (v9 : Nat) (f9 : Nat), (sN σ - f9) < NN → (f9 ≤ sN σ) → (v9 = fb_ct (fun f => allN (fun o => !togS σ f o) f) f9) → ∀ (H : Heap) (locs : List Loc), va_P G vwCl [(a 0, .inr (7, [.int (nI 0), .int (nI (sN σ)), .ref (a 1), .ref (a 2), .ref (a 3), .ref (a 4), .ref (a 5), .int (nI (sK σ)), .ref (a 6), .ref (a 7), .ref (a 8), .ref (a 9), .int (sU σ), .int (bI true), .ref (a 10), .ref (a 11), .ref (a 12), .ref (a 13), .int (bI (mSa x)), .int (nI (mPo x)), .int (nI (mSm x)), .ref (a 14), .ref (a 15)])), (a 1, .inl (k 0, 12, .inl (nA (sP σ)))), (a 2, .inl (k 0, 12, .inl (nA (sR σ)))), (a 3, .inl (k 0, 12, .inl (nA (sC σ)))), (a 4, .inl (k 0, 12, .inl (nA (sV σ)))), (a 5, .inl (k 0, 12, .inl (nA (sD σ)))), (a 6, .inl (k 0, 10, .inl (nA (sKd σ)))), (a 7, .inl (k 0, 10, .inl (nA (sA σ)))), (a 8, .inl (k 0, 10, .inl (nA (sB σ)))), (a 9, .inl (k 1, 10, .inl (bA (sO σ)))), (a 10, .inl (k 1, 4096, .inl (bA pr91))), (a 11, .inl (k 1, 4096, .inl (bA ca91))), (a 12, .inl (k 0, 4096, .inl (nA cs91))), (a 13, .inl (k 0, 4096, .inl (nA vs91))), (a 14, .inl (k 0, 576, .inl (nA (mSp x)))), (a 15, .inl (k 1, 576, .inl (bA (mMi x))))] H → va_D A [(a 0, .inr (7, [.int (nI 0), .int (nI (sN σ)), .ref (a 1), .ref (a 2), .ref (a 3), .ref (a 4), .ref (a 5), .int (nI (sK σ)), .ref (a 6), .ref (a 7), .ref (a 8), .ref (a 9), .int (sU σ), .int (bI true), .ref (a 10), .ref (a 11), .ref (a 12), .ref (a 13), .int (bI (mSa x)), .int (nI (mPo x)), .int (nI (mSm x)), .ref (a 14), .ref (a 15)])), (a 1, .inl (k 0, 12, .inl (nA (sP σ)))), (a 2, .inl (k 0, 12, .inl (nA (sR σ)))), (a 3, .inl (k 0, 12, .inl (nA (sC σ)))), (a 4, .inl (k 0, 12, .inl (nA (sV σ)))), (a 5, .inl (k 0, 12, .inl (nA (sD σ)))), (a 6, .inl (k 0, 10, .inl (nA (sKd σ)))), (a 7, .inl (k 0, 10, .inl (nA (sA σ)))), (a 8, .inl (k 0, 10, .inl (nA (sB σ)))), (a 9, .inl (k 1, 10, .inl (bA (sO σ)))), (a 10, .inl (k 1, 4096, .inl (bA pr91))), (a 11, .inl (k 1, 4096, .inl (bA ca91))), (a 12, .inl (k 0, 4096, .inl (nA cs91))), (a 13, .inl (k 0, 4096, .inl (nA vs91))), (a 14, .inl (k 0, 576, .inl (nA (mSp x)))), (a 15, .inl (k 1, 576, .inl (bA (mMi x))))] → va_S A sX.heap H locs → ∀ ls : Array Slot, lv_has ls 5 [(0, .ref (a 0)), (1, .int (nI v9)), (2, .int (nI f9))] → W pX l eX ({ frames := 4, cells := 0, slots := 0, locals := 91 } : Room) sX mX ([.ref (a 0)] : List Value).toArray bX meX cX H locs 0 0 (MQ bX (va_Qi (fun (rX : Int32) (u : (Mx)) => ∃ v : Int32, rX = v ∧ (0 = 0 → v = nI (r_bun σ)) ∧ MOK (σ) u ∧ mT u = 0) (Bm G k A (fun u : (Mx) => moW k a (σ) u)) A) ([.ref (a 0)] : List Value).toArray sX 0 0 A) (F0 mX 13 ls []) := by
    intro NN
    induction NN with
    | zero => intro v9 f9 hm9; exact absurd hm9 (Nat.not_lt_zero _)
    | succ NN ih13 =>
      intro v9 f9 hm9 hi ev H locs hP hD hS ls hl
      refine lv_iload_n hx hb dX7_bundles_13 rfl (lv_at hl 2 rfl) ?_
      refine lv_aload_n hx hb dX7_bundles_14 rfl (lv_at hl 0 rfl) ?_
      refine va_get (D := G) (ci := 7) (v := .int (nI (sN σ))) (C := RX7) (T := TX7) (N := 23) hx hb hts inX7 hown hK hP 0 rfl rfl 1 (by decide) lk1 (fun _ h9 => h9) rfl dX7_bundles_15 ?_
      refine n_icmp_ge (tgt := 76) (by omega) (by omega) hx hb dX7_bundles_18 (by decide) (fun q18 => ?_) (fun q18 => ?_)
      · skip
        refine lv_iload_n hx hb dX7_bundles_76 rfl (lv_at hl 1 rfl) ?_
        exact e_mutI (u := (0, true, pr91, ca91, cs91, vs91, mSa x, mPo x, mSm x, mSp x, mMi x)) hx hb hr hlk hS hP hK hD (by refine ⟨_, rfl, fun _ => by rw [ev, show f9 = sN σ by omega]; rfl, by exact ⟨hwf, fun _ => hk1, hsa⟩, by rfl⟩) dX7_bundles_77
      · skip
        refine n_iconst 1 (by decide) hx hb dX7_bundles_21 ?_
        refine lv_istore_n (lv' := [(3, .int (nI 1)), (0, .ref (a 0)), (1, .int (nI v9)), (2, .int (nI f9))]) hx hb dX7_bundles_22 rfl hl (by decide) rfl (fun ls hl => ?_)
        refine n_iconst 0 (by decide) hx hb dX7_bundles_23 ?_
        refine lv_istore (lv' := [(4, .int (nI 0)), (3, .int (nI 1)), (0, .ref (a 0)), (1, .int (nI v9)), (2, .int (nI f9))]) hx hb dX7_bundles_24 hl (by decide) rfl (fun ls hl => ?_)
        have L26 : ∀ (NN : Nat) (y9 : Bool) (o9 : Nat), (f9 - o9) < NN → (o9 ≤ f9) → (y9 = allN (fun o => !togS σ f9 o) o9) → ∀ (H : Heap) (locs : List Loc), va_P G vwCl [(a 0, .inr (7, [.int (nI 0), .int (nI (sN σ)), .ref (a 1), .ref (a 2), .ref (a 3), .ref (a 4), .ref (a 5), .int (nI (sK σ)), .ref (a 6), .ref (a 7), .ref (a 8), .ref (a 9), .int (sU σ), .int (bI true), .ref (a 10), .ref (a 11), .ref (a 12), .ref (a 13), .int (bI (mSa x)), .int (nI (mPo x)), .int (nI (mSm x)), .ref (a 14), .ref (a 15)])), (a 1, .inl (k 0, 12, .inl (nA (sP σ)))), (a 2, .inl (k 0, 12, .inl (nA (sR σ)))), (a 3, .inl (k 0, 12, .inl (nA (sC σ)))), (a 4, .inl (k 0, 12, .inl (nA (sV σ)))), (a 5, .inl (k 0, 12, .inl (nA (sD σ)))), (a 6, .inl (k 0, 10, .inl (nA (sKd σ)))), (a 7, .inl (k 0, 10, .inl (nA (sA σ)))), (a 8, .inl (k 0, 10, .inl (nA (sB σ)))), (a 9, .inl (k 1, 10, .inl (bA (sO σ)))), (a 10, .inl (k 1, 4096, .inl (bA pr91))), (a 11, .inl (k 1, 4096, .inl (bA ca91))), (a 12, .inl (k 0, 4096, .inl (nA cs91))), (a 13, .inl (k 0, 4096, .inl (nA vs91))), (a 14, .inl (k 0, 576, .inl (nA (mSp x)))), (a 15, .inl (k 1, 576, .inl (bA (mMi x))))] H → va_D A [(a 0, .inr (7, [.int (nI 0), .int (nI (sN σ)), .ref (a 1), .ref (a 2), .ref (a 3), .ref (a 4), .ref (a 5), .int (nI (sK σ)), .ref (a 6), .ref (a 7), .ref (a 8), .ref (a 9), .int (sU σ), .int (bI true), .ref (a 10), .ref (a 11), .ref (a 12), .ref (a 13), .int (bI (mSa x)), .int (nI (mPo x)), .int (nI (mSm x)), .ref (a 14), .ref (a 15)])), (a 1, .inl (k 0, 12, .inl (nA (sP σ)))), (a 2, .inl (k 0, 12, .inl (nA (sR σ)))), (a 3, .inl (k 0, 12, .inl (nA (sC σ)))), (a 4, .inl (k 0, 12, .inl (nA (sV σ)))), (a 5, .inl (k 0, 12, .inl (nA (sD σ)))), (a 6, .inl (k 0, 10, .inl (nA (sKd σ)))), (a 7, .inl (k 0, 10, .inl (nA (sA σ)))), (a 8, .inl (k 0, 10, .inl (nA (sB σ)))), (a 9, .inl (k 1, 10, .inl (bA (sO σ)))), (a 10, .inl (k 1, 4096, .inl (bA pr91))), (a 11, .inl (k 1, 4096, .inl (bA ca91))), (a 12, .inl (k 0, 4096, .inl (nA cs91))), (a 13, .inl (k 0, 4096, .inl (nA vs91))), (a 14, .inl (k 0, 576, .inl (nA (mSp x)))), (a 15, .inl (k 1, 576, .inl (bA (mMi x))))] → va_S A sX.heap H locs → ∀ ls : Array Slot, lv_has ls 5 [(0, .ref (a 0)), (1, .int (nI v9)), (2, .int (nI f9)), (3, .int (bI y9)), (4, .int (nI o9))] → W pX l eX ({ frames := 4, cells := 0, slots := 0, locals := 91 } : Room) sX mX ([.ref (a 0)] : List Value).toArray bX meX cX H locs 0 0 (MQ bX (va_Qi (fun (rX : Int32) (u : (Mx)) => ∃ v : Int32, rX = v ∧ (0 = 0 → v = nI (r_bun σ)) ∧ MOK (σ) u ∧ mT u = 0) (Bm G k A (fun u : (Mx) => moW k a (σ) u)) A) ([.ref (a 0)] : List Value).toArray sX 0 0 A) (F0 mX 26 ls []) := by
          intro NN
          induction NN with
          | zero => intro y9 o9 hm9; exact absurd hm9 (Nat.not_lt_zero _)
          | succ NN ih26 =>
            intro y9 o9 hm9 ho ey H locs hP hD hS ls hl
            refine lv_iload hx hb dX7_bundles_26 (lv_at hl 4 rfl) ?_
            refine lv_iload_n hx hb dX7_bundles_28 rfl (lv_at hl 2 rfl) ?_
            refine n_icmp_ge (tgt := 58) (by omega) (by omega) hx hb dX7_bundles_29 (by decide) (fun q29 => ?_) (fun q29 => ?_)
            · skip
              obtain rfl : f9 = o9 := by omega
              refine lv_iload_n hx hb dX7_bundles_58 rfl (lv_at hl 1 rfl) ?_
              refine lv_iload_n hx hb dX7_bundles_59 rfl (lv_at hl 3 rfl) ?_
              refine b_if_eq (tgt := 67) hx hb dX7_bundles_60 (by decide) (fun q60 => ?_) (fun q60 => ?_)
              · skip
                refine n_iconst 0 (by decide) hx hb dX7_bundles_67 ?_
                refine n_iadd hx hb dX7_bundles_68 ?_
                refine lv_istore_n (lv' := [(1, .int (nI (v9 + 0))), (0, .ref (a 0)), (2, .int (nI f9)), (3, .int (bI y9)), (4, .int (nI f9))]) hx hb dX7_bundles_69 rfl hl (by decide) rfl (fun ls hl => ?_)
                refine n_iinc (lv' := [(2, .int (nI (f9 + 1))), (1, .int (nI (v9 + 0))), (0, .ref (a 0)), (3, .int (bI y9)), (4, .int (nI f9))]) (k := 2) 1 hx hb dX7_bundles_70 hl rfl (by decide) (by decide) rfl (fun ls hl => ?_)
                refine lv_goto (tgt := 13) hx hb dX7_bundles_73 (by decide) ?_
                exact ih13 (v9 + 0) (f9 + 1) (by omega) (by omega) (by rw [fb_ct_succ, ev, ← ey, q60]; rfl) _ _ hP hD hS _ (lv_sub hl [2, 1, 0] rfl)
              · skip
                refine n_iconst 1 (by decide) hx hb dX7_bundles_63 ?_
                refine lv_goto (tgt := 68) hx hb dX7_bundles_64 (by decide) ?_
                refine n_iadd hx hb dX7_bundles_68 ?_
                refine lv_istore_n (lv' := [(1, .int (nI (v9 + 1))), (0, .ref (a 0)), (2, .int (nI f9)), (3, .int (bI y9)), (4, .int (nI f9))]) hx hb dX7_bundles_69 rfl hl (by decide) rfl (fun ls hl => ?_)
                refine n_iinc (lv' := [(2, .int (nI (f9 + 1))), (1, .int (nI (v9 + 1))), (0, .ref (a 0)), (3, .int (bI y9)), (4, .int (nI f9))]) (k := 2) 1 hx hb dX7_bundles_70 hl rfl (by decide) (by decide) rfl (fun ls hl => ?_)
                refine lv_goto (tgt := 13) hx hb dX7_bundles_73 (by decide) ?_
                exact ih13 (v9 + 1) (f9 + 1) (by omega) (by omega) (by rw [fb_ct_succ, ev, ← ey, q60]; rfl) _ _ hP hD hS _ (lv_sub hl [2, 1, 0] rfl)
            · skip
              refine lv_iload_n hx hb dX7_bundles_32 rfl (lv_at hl 3 rfl) ?_
              refine b_if_eq (tgt := 50) hx hb dX7_bundles_33 (by decide) (fun q33 => ?_) (fun q33 => ?_)
              · skip
                refine n_iconst 0 (by decide) hx hb dX7_bundles_50 ?_
                refine lv_istore_n (lv' := [(3, .int (nI 0)), (0, .ref (a 0)), (1, .int (nI v9)), (2, .int (nI f9)), (4, .int (nI o9))]) hx hb dX7_bundles_51 rfl hl (by decide) rfl (fun ls hl => ?_)
                refine n_iinc (lv' := [(4, .int (nI (o9 + 1))), (3, .int (nI 0)), (0, .ref (a 0)), (1, .int (nI v9)), (2, .int (nI f9))]) (k := 4) 1 hx hb dX7_bundles_52 hl rfl (by decide) (by decide) rfl (fun ls hl => ?_)
                refine lv_goto (tgt := 26) hx hb dX7_bundles_55 (by decide) ?_
                exact ih26 (false) (o9 + 1) (by omega) (by omega) (by rw [allN_succ, ← ey, ← kn_tg hk1 f9 o9]; first | (rw [q33, q43]; rfl) | (rw [q33]; rfl)) _ _ hP hD hS _ (lv_sub hl [2, 3, 4, 1, 0] rfl)
              · skip
                refine lv_aload_n hx hb dX7_bundles_36 rfl (lv_at hl 0 rfl) ?_
                refine lv_iload_n hx hb dX7_bundles_37 rfl (lv_at hl 2 rfl) ?_
                refine lv_iload hx hb dX7_bundles_38 (lv_at hl 4 rfl) ?_
                refine cV_i (As := [.int (nI f9), .int (nI o9)]) S hP hK hN (m_X7_together l G k _ _ _ _ _ _ _ _ _ _ _ _ _ _ _ _ _ _ _ _ _ _ _ _ _ _ _ (by omega) (by omega) (by omega)) gX7_bundles_X7_together rfl rfl rfl hdV_X7_together rfl rfl [0, 10] rfl 7 0 rfl rfl rfl rfl hl.1 rfl rfl ⟨Nat.le_of_ble_eq_true rfl, Nat.le_of_ble_eq_true rfl⟩ dX7_bundles_40 (fun rX hr2 => ?_)
                subst hr2
                refine b_if_ne (tgt := 50) hx hb dX7_bundles_43 (by decide) (fun q43 => ?_) (fun q43 => ?_)
                · skip
                  refine n_iconst 0 (by decide) hx hb dX7_bundles_50 ?_
                  refine lv_istore_n (lv' := [(3, .int (nI 0)), (0, .ref (a 0)), (1, .int (nI v9)), (2, .int (nI f9)), (4, .int (nI o9))]) hx hb dX7_bundles_51 rfl hl (by decide) rfl (fun ls hl => ?_)
                  refine n_iinc (lv' := [(4, .int (nI (o9 + 1))), (3, .int (nI 0)), (0, .ref (a 0)), (1, .int (nI v9)), (2, .int (nI f9))]) (k := 4) 1 hx hb dX7_bundles_52 hl rfl (by decide) (by decide) rfl (fun ls hl => ?_)
                  refine lv_goto (tgt := 26) hx hb dX7_bundles_55 (by decide) ?_
                  exact ih26 (false) (o9 + 1) (by omega) (by omega) (by rw [allN_succ, ← ey, ← kn_tg hk1 f9 o9]; first | (rw [q33, q43]; rfl) | (rw [q33]; rfl)) _ _ hP hD hS _ (lv_sub hl [2, 3, 4, 1, 0] rfl)
                · skip
                  refine n_iconst 1 (by decide) hx hb dX7_bundles_46 ?_
                  refine lv_goto (tgt := 51) hx hb dX7_bundles_47 (by decide) ?_
                  refine lv_istore_n (lv' := [(3, .int (nI 1)), (0, .ref (a 0)), (1, .int (nI v9)), (2, .int (nI f9)), (4, .int (nI o9))]) hx hb dX7_bundles_51 rfl hl (by decide) rfl (fun ls hl => ?_)
                  refine n_iinc (lv' := [(4, .int (nI (o9 + 1))), (3, .int (nI 1)), (0, .ref (a 0)), (1, .int (nI v9)), (2, .int (nI f9))]) (k := 4) 1 hx hb dX7_bundles_52 hl rfl (by decide) (by decide) rfl (fun ls hl => ?_)
                  refine lv_goto (tgt := 26) hx hb dX7_bundles_55 (by decide) ?_
                  exact ih26 (true) (o9 + 1) (by omega) (by omega) (by rw [allN_succ, ← ey, ← kn_tg hk1 f9 o9]; first | (rw [q33, q43]; rfl) | (rw [q33]; rfl)) _ _ hP hD hS _ (lv_sub hl [2, 3, 4, 1, 0] rfl)
        exact L26 _ (true) (0) (Nat.lt_succ_self _) (by omega) (by rfl) _ _ hP hD hS _ (lv_sub hl [2, 3, 4, 1, 0] rfl)
  exact L13 _ (0) (0) (Nat.lt_succ_self _) (by omega) (by rfl) _ _ hP hD hS _ (lv_sub hl [2, 1, 0] rfl)
set_option maxHeartbeats 4000000 in
set_option maxRecDepth 100000 in
theorem m_X7_blame (l : Launch) (G : va_G) (k : Nat → ClassId) (sz : Nat) (a : Nat → Nat) (σ : Sg) (x : Mx) (x9 : Int32) (hok : MOK σ x) : Met l yX7_blame wsX7_blame ({ frames := 5, cells := 0, slots := 0, locals := 112 } : Room) (va_Pc [.ref (a 0), .int x9] (Wm G k (moW k a σ x) sz)) (va_Qi (fun (rX : Int32) (u : (Mx)) => ∃ v : Int32, rX = v ∧ (e_fea σ x9 = 0 → v = oI (blO σ (tn x9) (M2 σ))) ∧ MOK (σ) u ∧ mT u = e_fea σ x9) (Bm G k (va_A (moW k a σ x) sz) (fun u : (Mx) => moW k a (σ) u)) (va_A (moW k a σ x) sz)) 0 0 (va_A (moW k a σ x) sz) := by
  refine met_mk (cc := cX7_blame) (maxL := 6) (ret := (some .int)) (by decide) rfl rfl ?_
  intro pX eX sX mX bX meX cX S hr hlk hnm hB ls hl
  obtain ⟨hsz, hP, hK, hN, hD0⟩ := hB
  subst hsz
  have hD := hD0.self (sz := sX.heap.size)
  generalize hAe : va_A (moW k a σ x) sX.heap.size = A at hD ⊢
  have hA : ∀ q : Nat, sX.heap.size ≤ q → A q := fun q h => by rw [← hAe]; exact Or.inr h
  have hS : va_S A sX.heap sX.heap [] := va_S.rf
  have hP : va_P G vwCl [(a 0, .inr (7, [.int (nI (mT x)), .int (nI (sN σ)), .ref (a 1), .ref (a 2), .ref (a 3), .ref (a 4), .ref (a 5), .int (nI (sK σ)), .ref (a 6), .ref (a 7), .ref (a 8), .ref (a 9), .int (sU σ), .int (bI (mKn x)), .ref (a 10), .ref (a 11), .ref (a 12), .ref (a 13), .int (bI (mSa x)), .int (nI (mPo x)), .int (nI (mSm x)), .ref (a 14), .ref (a 15)])), (a 1, .inl (k 0, 12, .inl (nA (sP σ)))), (a 2, .inl (k 0, 12, .inl (nA (sR σ)))), (a 3, .inl (k 0, 12, .inl (nA (sC σ)))), (a 4, .inl (k 0, 12, .inl (nA (sV σ)))), (a 5, .inl (k 0, 12, .inl (nA (sD σ)))), (a 6, .inl (k 0, 10, .inl (nA (sKd σ)))), (a 7, .inl (k 0, 10, .inl (nA (sA σ)))), (a 8, .inl (k 0, 10, .inl (nA (sB σ)))), (a 9, .inl (k 1, 10, .inl (bA (sO σ)))), (a 10, .inl (k 1, 4096, .inl (bA (mPr x)))), (a 11, .inl (k 1, 4096, .inl (bA (mCa x)))), (a 12, .inl (k 0, 4096, .inl (nA (mCs x)))), (a 13, .inl (k 0, 4096, .inl (nA (mVs x)))), (a 14, .inl (k 0, 576, .inl (nA (mSp x)))), (a 15, .inl (k 1, 576, .inl (bA (mMi x))))] sX.heap := hP
  have hD : va_D A [(a 0, .inr (7, [.int (nI (mT x)), .int (nI (sN σ)), .ref (a 1), .ref (a 2), .ref (a 3), .ref (a 4), .ref (a 5), .int (nI (sK σ)), .ref (a 6), .ref (a 7), .ref (a 8), .ref (a 9), .int (sU σ), .int (bI (mKn x)), .ref (a 10), .ref (a 11), .ref (a 12), .ref (a 13), .int (bI (mSa x)), .int (nI (mPo x)), .int (nI (mSm x)), .ref (a 14), .ref (a 15)])), (a 1, .inl (k 0, 12, .inl (nA (sP σ)))), (a 2, .inl (k 0, 12, .inl (nA (sR σ)))), (a 3, .inl (k 0, 12, .inl (nA (sC σ)))), (a 4, .inl (k 0, 12, .inl (nA (sV σ)))), (a 5, .inl (k 0, 12, .inl (nA (sD σ)))), (a 6, .inl (k 0, 10, .inl (nA (sKd σ)))), (a 7, .inl (k 0, 10, .inl (nA (sA σ)))), (a 8, .inl (k 0, 10, .inl (nA (sB σ)))), (a 9, .inl (k 1, 10, .inl (bA (sO σ)))), (a 10, .inl (k 1, 4096, .inl (bA (mPr x)))), (a 11, .inl (k 1, 4096, .inl (bA (mCa x)))), (a 12, .inl (k 0, 4096, .inl (nA (mCs x)))), (a 13, .inl (k 0, 4096, .inl (nA (mVs x)))), (a 14, .inl (k 0, 576, .inl (nA (mSp x)))), (a 15, .inl (k 1, 576, .inl (bA (mMi x))))] := hD
  obtain ⟨hx, hb, hml, hown, hts⟩ := id S
  have hown : sX.vm.findClass RX7 = some mX.cls := hown
  have hl : lv_has ls 6 [(0, .ref (a 0)), (1, .int x9)] := hl
  have lk0 : (Cond.fieldLink RX7 9 "FeatureAnalyzerModel" "features" "I").before _ sX = true := hts _ (List.mem_cons_of_mem _ (List.mem_append_left _ (List.mem_append_left _ (List.mem_of_getElem? (i := 0) rfl))))
  have inX7 : ∀ w ∈ wsX70, w ∈ wsX7_blame := fun w h => List.mem_cons_of_mem _ (List.mem_append_right _ (h))
  obtain ⟨hwf, hkn, hsa⟩ := id hok
  obtain ⟨hn1, hn, hpl, hpa, hrl, hco, hva, hde, hde0, hkc, hkd, hfa, hfb⟩ := id hwf
  have hpn := pow12 hn
  have hp1 := Nat.one_le_two_pow (n := sN σ)
  refine lv_aload_n hx hb dX7_blame_0 rfl (lv_at hl 0 rfl) ?_
  refine lv_iload_n hx hb dX7_blame_1 rfl (lv_at hl 1 rfl) ?_
  refine cV_mi (As := [.int x9]) (wn := fun u : (Nat → Bool) × (Nat → Bool) × (Nat → Nat) × (Nat → Nat) => [(a 0, .inr (7, [.int (nI (e_fea σ x9)), .int (nI (sN σ)), .ref (a 1), .ref (a 2), .ref (a 3), .ref (a 4), .ref (a 5), .int (nI (sK σ)), .ref (a 6), .ref (a 7), .ref (a 8), .ref (a 9), .int (sU σ), .int (bI true), .ref (a 10), .ref (a 11), .ref (a 12), .ref (a 13), .int (bI (mSa x)), .int (nI (mPo x)), .int (nI (mSm x)), .ref (a 14), .ref (a 15)])), (a 1, .inl (k 0, 12, .inl (nA (sP σ)))), (a 2, .inl (k 0, 12, .inl (nA (sR σ)))), (a 3, .inl (k 0, 12, .inl (nA (sC σ)))), (a 4, .inl (k 0, 12, .inl (nA (sV σ)))), (a 5, .inl (k 0, 12, .inl (nA (sD σ)))), (a 6, .inl (k 0, 10, .inl (nA (sKd σ)))), (a 7, .inl (k 0, 10, .inl (nA (sA σ)))), (a 8, .inl (k 0, 10, .inl (nA (sB σ)))), (a 9, .inl (k 1, 10, .inl (bA (sO σ)))), (a 10, .inl (k 1, 4096, .inl (bA u.1))), (a 11, .inl (k 1, 4096, .inl (bA u.2.1))), (a 12, .inl (k 0, 4096, .inl (nA u.2.2.1))), (a 13, .inl (k 0, 4096, .inl (nA u.2.2.2))), (a 14, .inl (k 0, 576, .inl (nA (mSp x)))), (a 15, .inl (k 1, 576, .inl (bA (mMi x))))]) S hP hK hN hD hS hA (m_X7_asks l G k _ a σ _ _ _ _ _ _ _ _ _ _ _ _ (by assumption) (by assumption)) gX7_blame_X7_asks rfl rfl rfl hdV_X7_asks rfl rfl [0, 1, 2, 3, 4, 5, 6, 7, 8, 9, 10, 11, 12, 13, 14, 15] [] [0, 1, 2, 3, 4, 5, 6, 7, 8, 9, 10, 11, 12, 13, 14, 15] rfl rfl rfl rfl rfl (by decide) (fun _ => rfl) (fun _ => rfl) rfl 7 0 rfl rfl rfl rfl hl.1 rfl rfl ⟨Nat.le_of_ble_eq_true rfl, Nat.le_of_ble_eq_true rfl⟩ dX7_blame_2 (fun rX u H locs hw1 hP hD hS => ?_)
  obtain ⟨pr91, ca91, cs91, vs91⟩ := u
  try dsimp only at hw1
  obtain ⟨rfl, hk1⟩ := hw1
  have hP : va_P G vwCl [(a 0, .inr (7, [.int (nI (e_fea σ x9)), .int (nI (sN σ)), .ref (a 1), .ref (a 2), .ref (a 3), .ref (a 4), .ref (a 5), .int (nI (sK σ)), .ref (a 6), .ref (a 7), .ref (a 8), .ref (a 9), .int (sU σ), .int (bI true), .ref (a 10), .ref (a 11), .ref (a 12), .ref (a 13), .int (bI (mSa x)), .int (nI (mPo x)), .int (nI (mSm x)), .ref (a 14), .ref (a 15)])), (a 1, .inl (k 0, 12, .inl (nA (sP σ)))), (a 2, .inl (k 0, 12, .inl (nA (sR σ)))), (a 3, .inl (k 0, 12, .inl (nA (sC σ)))), (a 4, .inl (k 0, 12, .inl (nA (sV σ)))), (a 5, .inl (k 0, 12, .inl (nA (sD σ)))), (a 6, .inl (k 0, 10, .inl (nA (sKd σ)))), (a 7, .inl (k 0, 10, .inl (nA (sA σ)))), (a 8, .inl (k 0, 10, .inl (nA (sB σ)))), (a 9, .inl (k 1, 10, .inl (bA (sO σ)))), (a 10, .inl (k 1, 4096, .inl (bA pr91))), (a 11, .inl (k 1, 4096, .inl (bA ca91))), (a 12, .inl (k 0, 4096, .inl (nA cs91))), (a 13, .inl (k 0, 4096, .inl (nA vs91))), (a 14, .inl (k 0, 576, .inl (nA (mSp x)))), (a 15, .inl (k 1, 576, .inl (bA (mMi x))))] H := hP
  have hD : va_D A [(a 0, .inr (7, [.int (nI (e_fea σ x9)), .int (nI (sN σ)), .ref (a 1), .ref (a 2), .ref (a 3), .ref (a 4), .ref (a 5), .int (nI (sK σ)), .ref (a 6), .ref (a 7), .ref (a 8), .ref (a 9), .int (sU σ), .int (bI true), .ref (a 10), .ref (a 11), .ref (a 12), .ref (a 13), .int (bI (mSa x)), .int (nI (mPo x)), .int (nI (mSm x)), .ref (a 14), .ref (a 15)])), (a 1, .inl (k 0, 12, .inl (nA (sP σ)))), (a 2, .inl (k 0, 12, .inl (nA (sR σ)))), (a 3, .inl (k 0, 12, .inl (nA (sC σ)))), (a 4, .inl (k 0, 12, .inl (nA (sV σ)))), (a 5, .inl (k 0, 12, .inl (nA (sD σ)))), (a 6, .inl (k 0, 10, .inl (nA (sKd σ)))), (a 7, .inl (k 0, 10, .inl (nA (sA σ)))), (a 8, .inl (k 0, 10, .inl (nA (sB σ)))), (a 9, .inl (k 1, 10, .inl (bA (sO σ)))), (a 10, .inl (k 1, 4096, .inl (bA pr91))), (a 11, .inl (k 1, 4096, .inl (bA ca91))), (a 12, .inl (k 0, 4096, .inl (nA cs91))), (a 13, .inl (k 0, 4096, .inl (nA vs91))), (a 14, .inl (k 0, 576, .inl (nA (mSp x)))), (a 15, .inl (k 1, 576, .inl (bA (mMi x))))] := hD
  refine b_if_ne (tgt := 10) hx hb dX7_blame_5 (by decide) (fun q5 => ?_) (fun q5 => ?_)
  · skip
    have he : e_fea σ x9 = 0 := by simp [e_fea, e_if, q5]
    obtain ⟨f9, hf9, rfl⟩ := isF_ok (by omega) q5
    refine lv_iconst (v := -1) hx hb dX7_blame_10 (by decide) ?_
    refine lv_istore_n (lv' := [(2, .int (-1)), (0, .ref (a 0)), (1, .int (nI f9))]) hx hb dX7_blame_11 rfl hl (by decide) rfl (fun ls hl => ?_)
    refine n_iconst 0 (by decide) hx hb dX7_blame_12 ?_
    refine lv_istore_n (lv' := [(3, .int (nI 0)), (2, .int (-1)), (0, .ref (a 0)), (1, .int (nI f9))]) hx hb dX7_blame_13 rfl hl (by decide) rfl (fun ls hl => ?_)
    have L14 : ∀ (NN : Nat) (b8 : Int32) (i : Nat), (2 ^ sN σ - i) < NN → (i ≤ 2 ^ sN σ) → (b8 = oI (blO σ f9 i)) → ∀ (H : Heap) (locs : List Loc), va_P G vwCl [(a 0, .inr (7, [.int (nI (e_fea σ (nI f9))), .int (nI (sN σ)), .ref (a 1), .ref (a 2), .ref (a 3), .ref (a 4), .ref (a 5), .int (nI (sK σ)), .ref (a 6), .ref (a 7), .ref (a 8), .ref (a 9), .int (sU σ), .int (bI true), .ref (a 10), .ref (a 11), .ref (a 12), .ref (a 13), .int (bI (mSa x)), .int (nI (mPo x)), .int (nI (mSm x)), .ref (a 14), .ref (a 15)])), (a 1, .inl (k 0, 12, .inl (nA (sP σ)))), (a 2, .inl (k 0, 12, .inl (nA (sR σ)))), (a 3, .inl (k 0, 12, .inl (nA (sC σ)))), (a 4, .inl (k 0, 12, .inl (nA (sV σ)))), (a 5, .inl (k 0, 12, .inl (nA (sD σ)))), (a 6, .inl (k 0, 10, .inl (nA (sKd σ)))), (a 7, .inl (k 0, 10, .inl (nA (sA σ)))), (a 8, .inl (k 0, 10, .inl (nA (sB σ)))), (a 9, .inl (k 1, 10, .inl (bA (sO σ)))), (a 10, .inl (k 1, 4096, .inl (bA pr91))), (a 11, .inl (k 1, 4096, .inl (bA ca91))), (a 12, .inl (k 0, 4096, .inl (nA cs91))), (a 13, .inl (k 0, 4096, .inl (nA vs91))), (a 14, .inl (k 0, 576, .inl (nA (mSp x)))), (a 15, .inl (k 1, 576, .inl (bA (mMi x))))] H → va_D A [(a 0, .inr (7, [.int (nI (e_fea σ (nI f9))), .int (nI (sN σ)), .ref (a 1), .ref (a 2), .ref (a 3), .ref (a 4), .ref (a 5), .int (nI (sK σ)), .ref (a 6), .ref (a 7), .ref (a 8), .ref (a 9), .int (sU σ), .int (bI true), .ref (a 10), .ref (a 11), .ref (a 12), .ref (a 13), .int (bI (mSa x)), .int (nI (mPo x)), .int (nI (mSm x)), .ref (a 14), .ref (a 15)])), (a 1, .inl (k 0, 12, .inl (nA (sP σ)))), (a 2, .inl (k 0, 12, .inl (nA (sR σ)))), (a 3, .inl (k 0, 12, .inl (nA (sC σ)))), (a 4, .inl (k 0, 12, .inl (nA (sV σ)))), (a 5, .inl (k 0, 12, .inl (nA (sD σ)))), (a 6, .inl (k 0, 10, .inl (nA (sKd σ)))), (a 7, .inl (k 0, 10, .inl (nA (sA σ)))), (a 8, .inl (k 0, 10, .inl (nA (sB σ)))), (a 9, .inl (k 1, 10, .inl (bA (sO σ)))), (a 10, .inl (k 1, 4096, .inl (bA pr91))), (a 11, .inl (k 1, 4096, .inl (bA ca91))), (a 12, .inl (k 0, 4096, .inl (nA cs91))), (a 13, .inl (k 0, 4096, .inl (nA vs91))), (a 14, .inl (k 0, 576, .inl (nA (mSp x)))), (a 15, .inl (k 1, 576, .inl (bA (mMi x))))] → va_S A sX.heap H locs → ∀ ls : Array Slot, lv_has ls 6 [(0, .ref (a 0)), (1, .int (nI f9)), (2, .int b8), (3, .int (nI i))] → W pX l eX ({ frames := 5, cells := 0, slots := 0, locals := 112 } : Room) sX mX ([.ref (a 0), .int (nI f9)] : List Value).toArray bX meX cX H locs 0 0 (MQ bX (va_Qi (fun (rX : Int32) (u : (Mx)) => ∃ v : Int32, rX = v ∧ (e_fea σ (nI f9) = 0 → v = oI (blO σ (tn (nI f9)) (M2 σ))) ∧ MOK (σ) u ∧ mT u = e_fea σ (nI f9)) (Bm G k A (fun u : (Mx) => moW k a (σ) u)) A) ([.ref (a 0), .int (nI f9)] : List Value).toArray sX 0 0 A) (F0 mX 14 ls []) := by
      intro NN
      induction NN with
      | zero => intro b8 i hm9; exact absurd hm9 (Nat.not_lt_zero _)
      | succ NN ih14 =>
        intro b8 i hm9 hi ex H locs hP hD hS ls hl
        refine lv_iload_n hx hb dX7_blame_14 rfl (lv_at hl 3 rfl) ?_
        refine n_iconst 1 (by decide) hx hb dX7_blame_15 ?_
        refine lv_aload_n hx hb dX7_blame_16 rfl (lv_at hl 0 rfl) ?_
        refine va_get (D := G) (ci := 7) (v := .int (nI (sN σ))) (C := RX7) (T := TX7) (N := 23) hx hb hts inX7 hown hK hP 0 rfl rfl 1 (by decide) lk0 (fun _ h9 => h9) rfl dX7_blame_17 ?_
        refine n_ishl1 (by omega) hx hb dX7_blame_20 ?_
        refine n_icmp_ge (tgt := 95) (by omega) (by omega) hx hb dX7_blame_21 (by decide) (fun q21 => ?_) (fun q21 => ?_)
        · skip
          refine lv_iload_n hx hb dX7_blame_95 rfl (lv_at hl 2 rfl) ?_
          exact e_mutI (u := (e_fea σ (nI f9), true, pr91, ca91, cs91, vs91, mSa x, mPo x, mSm x, mSp x, mMi x)) hx hb hr hlk hS hP hK hD (by refine ⟨_, rfl, fun _ => by rw [tn_nI (by omega), ex, show i = 2 ^ sN σ by omega]; rfl, by exact ⟨hwf, fun _ => hk1, hsa⟩, by rfl⟩) dX7_blame_96
        · skip
          have hob : ∀ x, blO σ f9 i = some x → x < 2147483648 := fun x h => Nat.lt_trans (blO_lt hwf h) (by decide)
          have hcn := cnN_lt (sKd σ) (sA σ) (sB σ) (sO σ) i hkc
          refine lv_iload_n hx hb dX7_blame_24 rfl (lv_at hl 3 rfl) ?_
          refine lv_iload_n hx hb dX7_blame_25 rfl (lv_at hl 1 rfl) ?_
          refine cS_i (As := [.int (nI i), .int (nI f9)]) S hP hK hN (m_X7_has l G k _ _ (by omega) (by omega)) gX7_blame_X7_has rfl rfl rfl hdS_X7_has rfl rfl [] rfl rfl hl.1 rfl rfl ⟨Nat.le_of_ble_eq_true rfl, Nat.le_of_ble_eq_true rfl⟩ dX7_blame_26 (fun rX hr2 => ?_)
          subst hr2
          refine b_if_eq (tgt := 89) hx hb dX7_blame_29 (by decide) (fun q29 => ?_) (fun q29 => ?_)
          · skip
            have hq := blO_no (σ := σ) (f := f9) (i := i) (fun z => by rw [q29] at z; exact absurd z.1 (by decide))
            refine n_iinc (lv' := [(3, .int (nI (i + 1))), (0, .ref (a 0)), (1, .int (nI f9)), (2, .int b8)]) (k := 3) 1 hx hb dX7_blame_89 hl rfl (by decide) (by decide) rfl (fun ls hl => ?_)
            refine lv_goto (tgt := 14) hx hb dX7_blame_92 (by decide) ?_
            exact ih14 (b8) (i + 1) (by omega) (by omega) (by first | (rw [hq]; exact ex) | (rw [hq]; rfl)) _ _ hP hD hS _ (lv_sub hl [1, 2, 3, 0] rfl)
          · skip
            refine lv_aload_n hx hb dX7_blame_32 rfl (lv_at hl 0 rfl) ?_
            refine lv_iload_n hx hb dX7_blame_33 rfl (lv_at hl 3 rfl) ?_
            refine cV_i (As := [.int (nI i)]) S hP hK hN (m_X7_brokenInTree l G k _ _ _ _ _ _ _ _ _ _ _ _ _ _ _ _ _ _ _ _ _ _ _ _ _ _ _ (by omega) (by omega) (by omega) (by exact fun i _ => hpa i) (by exact fun i _ => hrl i)) gX7_blame_X7_brokenInTree rfl rfl rfl hdV_X7_brokenInTree rfl rfl [0, 1, 2] rfl 7 0 rfl rfl rfl rfl hl.1 rfl rfl ⟨Nat.le_of_ble_eq_true rfl, Nat.le_of_ble_eq_true rfl⟩ dX7_blame_34 (fun rX hr3 => ?_)
            subst hr3
            have htl := treeN_lt (sP σ) (sR σ) i hn
            refine n_if_eq (tgt := 43) (by omega) hx hb dX7_blame_37 (by decide) (fun q37 => ?_) (fun q37 => ?_)
            · skip
              have hti : i.testBit f9 = true ∧ treeN (sN σ) (sP σ) (sR σ) i = 0 := ⟨q29, q37⟩
              refine lv_aload_n hx hb dX7_blame_43 rfl (lv_at hl 0 rfl) ?_
              refine lv_iload_n hx hb dX7_blame_44 rfl (lv_at hl 3 rfl) ?_
              refine cV_i (As := [.int (nI i)]) S hP hK hN (m_X7_brokenConstraints l G k _ _ _ _ _ _ _ _ _ _ _ _ _ _ _ _ _ _ _ _ _ _ _ _ _ _ _ _ _ (by omega) (by omega) (by exact fun i _ => hkd i) (by exact fun i _ => hfa i) (by exact fun i _ => hfb i)) gX7_blame_X7_brokenConstraints rfl rfl rfl hdV_X7_brokenConstraints rfl rfl [0, 6, 7, 8, 9] rfl 7 0 rfl rfl rfl rfl hl.1 rfl rfl ⟨Nat.le_of_ble_eq_true rfl, Nat.le_of_ble_eq_true rfl⟩ dX7_blame_45 (fun rX hr4 => ?_)
              subst hr4
              refine lv_istore (lv' := [(4, .int (nI (cnN (sKd σ) (sA σ) (sB σ) (sO σ) i (sK σ)))), (0, .ref (a 0)), (1, .int (nI f9)), (2, .int b8), (3, .int (nI i))]) hx hb dX7_blame_48 hl (by decide) rfl (fun ls hl => ?_)
              refine lv_iload hx hb dX7_blame_50 (lv_at hl 0 rfl) ?_
              refine cS_i (As := [.int (nI (cnN (sKd σ) (sA σ) (sB σ) (sO σ) i (sK σ)))]) S hP hK hN (m_J6_bitCount l G k _ (by omega)) gX7_blame_J6_bitCount_0f7a4 rfl rfl rfl hdS_J6_bitCount_0f7a4 rfl rfl [] rfl rfl hl.1 rfl rfl ⟨Nat.le_of_ble_eq_true rfl, Nat.le_of_ble_eq_true rfl⟩ dX7_blame_52 (fun rX hr5 => ?_)
              subst hr5
              refine lv_istore (lv' := [(5, .int (nI (popc (cnN (sKd σ) (sA σ) (sB σ) (sO σ) i (sK σ))))), (4, .int (nI (cnN (sKd σ) (sA σ) (sB σ) (sO σ) i (sK σ)))), (0, .ref (a 0)), (1, .int (nI f9)), (2, .int b8), (3, .int (nI i))]) hx hb dX7_blame_55 hl (by decide) rfl (fun ls hl => ?_)
              refine lv_iload_n hx hb dX7_blame_57 rfl (lv_at hl 4 rfl) ?_
              refine lv_iconst (v := -1) hx hb dX7_blame_58 (by decide) ?_
              refine lv_icmp_eq (tgt := 86) hx hb dX7_blame_59 (by decide) (fun q59 => ?_) (fun q59 => ?_)
              · skip
                have hq := blO_first hti ((oI_none hob).mp (ex.symm.trans q59))
                refine lv_iload hx hb dX7_blame_86 (lv_at hl 1 rfl) ?_
                refine lv_istore_n (lv' := [(2, .int (nI (cnN (sKd σ) (sA σ) (sB σ) (sO σ) i (sK σ)))), (5, .int (nI (popc (cnN (sKd σ) (sA σ) (sB σ) (sO σ) i (sK σ))))), (4, .int (nI (cnN (sKd σ) (sA σ) (sB σ) (sO σ) i (sK σ)))), (0, .ref (a 0)), (1, .int (nI f9)), (3, .int (nI i))]) hx hb dX7_blame_88 rfl hl (by decide) rfl (fun ls hl => ?_)
                refine n_iinc (lv' := [(3, .int (nI (i + 1))), (2, .int (nI (cnN (sKd σ) (sA σ) (sB σ) (sO σ) i (sK σ)))), (5, .int (nI (popc (cnN (sKd σ) (sA σ) (sB σ) (sO σ) i (sK σ))))), (4, .int (nI (cnN (sKd σ) (sA σ) (sB σ) (sO σ) i (sK σ)))), (0, .ref (a 0)), (1, .int (nI f9))]) (k := 5) 1 hx hb dX7_blame_89 hl rfl (by decide) (by decide) rfl (fun ls hl => ?_)
                refine lv_goto (tgt := 14) hx hb dX7_blame_92 (by decide) ?_
                exact ih14 ((nI (cnN (sKd σ) (sA σ) (sB σ) (sO σ) i (sK σ)))) (i + 1) (by omega) (by omega) (by first | (rw [hq]; exact ex) | (rw [hq]; rfl)) _ _ hP hD hS _ (lv_sub hl [4, 5, 1, 0] rfl)
              · skip
                obtain ⟨b9, hb9⟩ : ∃ b, blO σ f9 i = some b := by cases h : blO σ f9 i with | none => exact absurd (by rw [ex, h]; rfl) q59 | some b => exact ⟨b, rfl⟩
                obtain rfl : b8 = nI b9 := by rw [ex, hb9]; rfl
                have hbl := blO_lt hwf hb9
                refine lv_iload hx hb dX7_blame_62 (lv_at hl 0 rfl) ?_
                refine lv_iload_n hx hb dX7_blame_64 rfl (lv_at hl 4 rfl) ?_
                refine cS_i (As := [.int (nI b9)]) S hP hK hN (m_J6_bitCount l G k _ (by omega)) gX7_blame_J6_bitCount_0f7a4 rfl rfl rfl hdS_J6_bitCount_0f7a4 rfl rfl [] rfl rfl hl.1 rfl rfl ⟨Nat.le_of_ble_eq_true rfl, Nat.le_of_ble_eq_true rfl⟩ dX7_blame_65 (fun rX hr6 => ?_)
                subst hr6
                refine n_icmp_lt (tgt := 86) (by exact popc_lt _) (by exact popc_lt _) hx hb dX7_blame_68 (by decide) (fun q68 => ?_) (fun q68 => ?_)
                · skip
                  have hq := blO_less hti hb9 (lessB_t1 q68)
                  refine lv_iload hx hb dX7_blame_86 (lv_at hl 1 rfl) ?_
                  refine lv_istore_n (lv' := [(2, .int (nI (cnN (sKd σ) (sA σ) (sB σ) (sO σ) i (sK σ)))), (5, .int (nI (popc (cnN (sKd σ) (sA σ) (sB σ) (sO σ) i (sK σ))))), (4, .int (nI (cnN (sKd σ) (sA σ) (sB σ) (sO σ) i (sK σ)))), (0, .ref (a 0)), (1, .int (nI f9)), (3, .int (nI i))]) hx hb dX7_blame_88 rfl hl (by decide) rfl (fun ls hl => ?_)
                  refine n_iinc (lv' := [(3, .int (nI (i + 1))), (2, .int (nI (cnN (sKd σ) (sA σ) (sB σ) (sO σ) i (sK σ)))), (5, .int (nI (popc (cnN (sKd σ) (sA σ) (sB σ) (sO σ) i (sK σ))))), (4, .int (nI (cnN (sKd σ) (sA σ) (sB σ) (sO σ) i (sK σ)))), (0, .ref (a 0)), (1, .int (nI f9))]) (k := 5) 1 hx hb dX7_blame_89 hl rfl (by decide) (by decide) rfl (fun ls hl => ?_)
                  refine lv_goto (tgt := 14) hx hb dX7_blame_92 (by decide) ?_
                  exact ih14 ((nI (cnN (sKd σ) (sA σ) (sB σ) (sO σ) i (sK σ)))) (i + 1) (by omega) (by omega) (by first | (rw [hq]; exact ex) | (rw [hq]; rfl)) _ _ hP hD hS _ (lv_sub hl [4, 5, 1, 0] rfl)
                · skip
                  refine lv_iload hx hb dX7_blame_71 (lv_at hl 0 rfl) ?_
                  refine lv_iload_n hx hb dX7_blame_73 rfl (lv_at hl 4 rfl) ?_
                  refine cS_i (As := [.int (nI b9)]) S hP hK hN (m_J6_bitCount l G k _ (by omega)) gX7_blame_J6_bitCount_0f7a4 rfl rfl rfl hdS_J6_bitCount_0f7a4 rfl rfl [] rfl rfl hl.1 rfl rfl ⟨Nat.le_of_ble_eq_true rfl, Nat.le_of_ble_eq_true rfl⟩ dX7_blame_74 (fun rX hr7 => ?_)
                  subst hr7
                  refine n_icmp_ne (tgt := 89) (by exact popc_lt _) (by exact popc_lt _) hx hb dX7_blame_77 (by decide) (fun q77 => ?_) (fun q77 => ?_)
                  · skip
                    have hq := blO_keep hti hb9 (lessB_f1 q68 q77)
                    refine n_iinc (lv' := [(3, .int (nI (i + 1))), (5, .int (nI (popc (cnN (sKd σ) (sA σ) (sB σ) (sO σ) i (sK σ))))), (4, .int (nI (cnN (sKd σ) (sA σ) (sB σ) (sO σ) i (sK σ)))), (0, .ref (a 0)), (1, .int (nI f9)), (2, .int (nI b9))]) (k := 5) 1 hx hb dX7_blame_89 hl rfl (by decide) (by decide) rfl (fun ls hl => ?_)
                    refine lv_goto (tgt := 14) hx hb dX7_blame_92 (by decide) ?_
                    exact ih14 ((nI b9)) (i + 1) (by omega) (by omega) (by first | (rw [hq]; exact ex) | (rw [hq]; rfl)) _ _ hP hD hS _ (lv_sub hl [3, 4, 5, 0] rfl)
                  · skip
                    refine lv_iload hx hb dX7_blame_80 (lv_at hl 1 rfl) ?_
                    refine lv_iload_n hx hb dX7_blame_82 rfl (lv_at hl 4 rfl) ?_
                    refine n_icmp_ge (tgt := 89) (by omega) (by omega) hx hb dX7_blame_83 (by decide) (fun q83 => ?_) (fun q83 => ?_)
                    · skip
                      have hq := blO_keep hti hb9 (lessB_f2 q68 q83)
                      refine n_iinc (lv' := [(3, .int (nI (i + 1))), (5, .int (nI (popc (cnN (sKd σ) (sA σ) (sB σ) (sO σ) i (sK σ))))), (4, .int (nI (cnN (sKd σ) (sA σ) (sB σ) (sO σ) i (sK σ)))), (0, .ref (a 0)), (1, .int (nI f9)), (2, .int (nI b9))]) (k := 5) 1 hx hb dX7_blame_89 hl rfl (by decide) (by decide) rfl (fun ls hl => ?_)
                      refine lv_goto (tgt := 14) hx hb dX7_blame_92 (by decide) ?_
                      exact ih14 ((nI b9)) (i + 1) (by omega) (by omega) (by first | (rw [hq]; exact ex) | (rw [hq]; rfl)) _ _ hP hD hS _ (lv_sub hl [3, 4, 5, 0] rfl)
                    · skip
                      have hq := blO_less hti hb9 (lessB_t2 q77 q83)
                      refine lv_iload hx hb dX7_blame_86 (lv_at hl 1 rfl) ?_
                      refine lv_istore_n (lv' := [(2, .int (nI (cnN (sKd σ) (sA σ) (sB σ) (sO σ) i (sK σ)))), (5, .int (nI (popc (cnN (sKd σ) (sA σ) (sB σ) (sO σ) i (sK σ))))), (4, .int (nI (cnN (sKd σ) (sA σ) (sB σ) (sO σ) i (sK σ)))), (0, .ref (a 0)), (1, .int (nI f9)), (3, .int (nI i))]) hx hb dX7_blame_88 rfl hl (by decide) rfl (fun ls hl => ?_)
                      refine n_iinc (lv' := [(3, .int (nI (i + 1))), (2, .int (nI (cnN (sKd σ) (sA σ) (sB σ) (sO σ) i (sK σ)))), (5, .int (nI (popc (cnN (sKd σ) (sA σ) (sB σ) (sO σ) i (sK σ))))), (4, .int (nI (cnN (sKd σ) (sA σ) (sB σ) (sO σ) i (sK σ)))), (0, .ref (a 0)), (1, .int (nI f9))]) (k := 5) 1 hx hb dX7_blame_89 hl rfl (by decide) (by decide) rfl (fun ls hl => ?_)
                      refine lv_goto (tgt := 14) hx hb dX7_blame_92 (by decide) ?_
                      exact ih14 ((nI (cnN (sKd σ) (sA σ) (sB σ) (sO σ) i (sK σ)))) (i + 1) (by omega) (by omega) (by first | (rw [hq]; exact ex) | (rw [hq]; rfl)) _ _ hP hD hS _ (lv_sub hl [4, 5, 1, 0] rfl)
            · skip
              have hq := blO_no (σ := σ) (f := f9) (i := i) (fun z => by omega)
              refine lv_goto (tgt := 89) hx hb dX7_blame_40 (by decide) ?_
              refine n_iinc (lv' := [(3, .int (nI (i + 1))), (0, .ref (a 0)), (1, .int (nI f9)), (2, .int b8)]) (k := 3) 1 hx hb dX7_blame_89 hl rfl (by decide) (by decide) rfl (fun ls hl => ?_)
              refine lv_goto (tgt := 14) hx hb dX7_blame_92 (by decide) ?_
              exact ih14 (b8) (i + 1) (by omega) (by omega) (by first | (rw [hq]; exact ex) | (rw [hq]; rfl)) _ _ hP hD hS _ (lv_sub hl [1, 2, 3, 0] rfl)
    exact L14 _ ((-1)) (0) (Nat.lt_succ_self _) (by omega) (by rfl) _ _ hP hD hS _ (lv_sub hl [2, 3, 1, 0] rfl)
  · skip
    have he : e_fea σ x9 = 1 := by simp [e_fea, e_if, q5]
    refine n_iconst 0 (by decide) hx hb dX7_blame_8 ?_
    exact e_mutI (u := (e_fea σ x9, true, pr91, ca91, cs91, vs91, mSa x, mPo x, mSm x, mSp x, mMi x)) hx hb hr hlk hS hP hK hD (by refine ⟨_, rfl, fun z => absurd (he.symm.trans z) (by decide), by exact ⟨hwf, fun _ => hk1, hsa⟩, by rfl⟩) dX7_blame_9
theorem hdV_X7_candidateCount : yX7_candidateCount.cls = RX7 ∧ yX7_candidateCount.cls ≠ "java/lang/invoke/MethodHandle" ∧ yX7_candidateCount.cls ≠ "java/lang/invoke/VarHandle" ∧ (parseMethodDescriptor yX7_candidateCount.desc).map (fun d => d.parameters.length) = some 0 := by decide +kernel
theorem hdV_X7_openWith : yX7_openWith.cls = RX7 ∧ yX7_openWith.cls ≠ "java/lang/invoke/MethodHandle" ∧ yX7_openWith.cls ≠ "java/lang/invoke/VarHandle" ∧ (parseMethodDescriptor yX7_openWith.desc).map (fun d => d.parameters.length) = some 1 := by decide +kernel
set_option maxHeartbeats 4000000 in
set_option maxRecDepth 100000 in
theorem m_X7_forced (l : Launch) (G : va_G) (k : Nat → ClassId) (sz : Nat) (a : Nat → Nat) (σ : Sg) (x : Mx)  (hok : MOK σ x) : Met l yX7_forced wsX7_forced ({ frames := 5, cells := 0, slots := 0, locals := 111 } : Room) (va_Pc [.ref (a 0)] (Wm G k (moW k a σ x) sz)) (va_Qi (fun (rX : Int32) (u : (Mx)) => ∃ v : Int32, rX = v ∧ (0 = 0 → v = nI (r_for σ)) ∧ MOK (σ) u ∧ mT u = 0) (Bm G k (va_A (moW k a σ x) sz) (fun u : (Mx) => moW k a (σ) u)) (va_A (moW k a σ x) sz)) 0 0 (va_A (moW k a σ x) sz) := by
  refine met_mk (cc := cX7_forced) (maxL := 2) (ret := (some .int)) (by decide) rfl rfl ?_
  intro pX eX sX mX bX meX cX S hr hlk hnm hB ls hl
  obtain ⟨hsz, hP, hK, hN, hD0⟩ := hB
  subst hsz
  have hD := hD0.self (sz := sX.heap.size)
  generalize hAe : va_A (moW k a σ x) sX.heap.size = A at hD ⊢
  have hA : ∀ q : Nat, sX.heap.size ≤ q → A q := fun q h => by rw [← hAe]; exact Or.inr h
  have hS : va_S A sX.heap sX.heap [] := va_S.rf
  have hP : va_P G vwCl [(a 0, .inr (7, [.int (nI (mT x)), .int (nI (sN σ)), .ref (a 1), .ref (a 2), .ref (a 3), .ref (a 4), .ref (a 5), .int (nI (sK σ)), .ref (a 6), .ref (a 7), .ref (a 8), .ref (a 9), .int (sU σ), .int (bI (mKn x)), .ref (a 10), .ref (a 11), .ref (a 12), .ref (a 13), .int (bI (mSa x)), .int (nI (mPo x)), .int (nI (mSm x)), .ref (a 14), .ref (a 15)])), (a 1, .inl (k 0, 12, .inl (nA (sP σ)))), (a 2, .inl (k 0, 12, .inl (nA (sR σ)))), (a 3, .inl (k 0, 12, .inl (nA (sC σ)))), (a 4, .inl (k 0, 12, .inl (nA (sV σ)))), (a 5, .inl (k 0, 12, .inl (nA (sD σ)))), (a 6, .inl (k 0, 10, .inl (nA (sKd σ)))), (a 7, .inl (k 0, 10, .inl (nA (sA σ)))), (a 8, .inl (k 0, 10, .inl (nA (sB σ)))), (a 9, .inl (k 1, 10, .inl (bA (sO σ)))), (a 10, .inl (k 1, 4096, .inl (bA (mPr x)))), (a 11, .inl (k 1, 4096, .inl (bA (mCa x)))), (a 12, .inl (k 0, 4096, .inl (nA (mCs x)))), (a 13, .inl (k 0, 4096, .inl (nA (mVs x)))), (a 14, .inl (k 0, 576, .inl (nA (mSp x)))), (a 15, .inl (k 1, 576, .inl (bA (mMi x))))] sX.heap := hP
  have hD : va_D A [(a 0, .inr (7, [.int (nI (mT x)), .int (nI (sN σ)), .ref (a 1), .ref (a 2), .ref (a 3), .ref (a 4), .ref (a 5), .int (nI (sK σ)), .ref (a 6), .ref (a 7), .ref (a 8), .ref (a 9), .int (sU σ), .int (bI (mKn x)), .ref (a 10), .ref (a 11), .ref (a 12), .ref (a 13), .int (bI (mSa x)), .int (nI (mPo x)), .int (nI (mSm x)), .ref (a 14), .ref (a 15)])), (a 1, .inl (k 0, 12, .inl (nA (sP σ)))), (a 2, .inl (k 0, 12, .inl (nA (sR σ)))), (a 3, .inl (k 0, 12, .inl (nA (sC σ)))), (a 4, .inl (k 0, 12, .inl (nA (sV σ)))), (a 5, .inl (k 0, 12, .inl (nA (sD σ)))), (a 6, .inl (k 0, 10, .inl (nA (sKd σ)))), (a 7, .inl (k 0, 10, .inl (nA (sA σ)))), (a 8, .inl (k 0, 10, .inl (nA (sB σ)))), (a 9, .inl (k 1, 10, .inl (bA (sO σ)))), (a 10, .inl (k 1, 4096, .inl (bA (mPr x)))), (a 11, .inl (k 1, 4096, .inl (bA (mCa x)))), (a 12, .inl (k 0, 4096, .inl (nA (mCs x)))), (a 13, .inl (k 0, 4096, .inl (nA (mVs x)))), (a 14, .inl (k 0, 576, .inl (nA (mSp x)))), (a 15, .inl (k 1, 576, .inl (bA (mMi x))))] := hD
  obtain ⟨hx, hb, hml, hown, hts⟩ := id S
  have hown : sX.vm.findClass RX7 = some mX.cls := hown
  have hl : lv_has ls 2 [(0, .ref (a 0))] := hl
  obtain ⟨hwf, hkn, hsa⟩ := id hok
  obtain ⟨hn1, hn, hpl, hpa, hrl, hco, hva, hde, hde0, hkc, hkd, hfa, hfb⟩ := id hwf
  have hpn := pow12 hn
  have hp1 := Nat.one_le_two_pow (n := sN σ)
  refine lv_aload_n hx hb dX7_forced_0 rfl (lv_at hl 0 rfl) ?_
  refine cV_mi (As := []) (wn := fun u : (Mx) => [(a 0, .inr (7, [.int (nI (mT u)), .int (nI (sN (σ))), .ref (a 1), .ref (a 2), .ref (a 3), .ref (a 4), .ref (a 5), .int (nI (sK (σ))), .ref (a 6), .ref (a 7), .ref (a 8), .ref (a 9), .int (sU (σ)), .int (bI (mKn u)), .ref (a 10), .ref (a 11), .ref (a 12), .ref (a 13), .int (bI (mSa u)), .int (nI (mPo u)), .int (nI (mSm u)), .ref (a 14), .ref (a 15)])), (a 1, .inl (k 0, 12, .inl (nA (sP (σ))))), (a 2, .inl (k 0, 12, .inl (nA (sR (σ))))), (a 3, .inl (k 0, 12, .inl (nA (sC (σ))))), (a 4, .inl (k 0, 12, .inl (nA (sV (σ))))), (a 5, .inl (k 0, 12, .inl (nA (sD (σ))))), (a 6, .inl (k 0, 10, .inl (nA (sKd (σ))))), (a 7, .inl (k 0, 10, .inl (nA (sA (σ))))), (a 8, .inl (k 0, 10, .inl (nA (sB (σ))))), (a 9, .inl (k 1, 10, .inl (bA (sO (σ))))), (a 10, .inl (k 1, 4096, .inl (bA (mPr u)))), (a 11, .inl (k 1, 4096, .inl (bA (mCa u)))), (a 12, .inl (k 0, 4096, .inl (nA (mCs u)))), (a 13, .inl (k 0, 4096, .inl (nA (mVs u)))), (a 14, .inl (k 0, 576, .inl (nA (mSp u)))), (a 15, .inl (k 1, 576, .inl (bA (mMi u))))]) S hP hK hN hD hS hA (m_X7_candidateCount l G k _ a σ _ (by assumption)) gX7_forced_X7_candidateCount rfl rfl rfl hdV_X7_candidateCount rfl rfl [0, 1, 2, 3, 4, 5, 6, 7, 8, 9, 10, 11, 12, 13, 14, 15] [] [0, 1, 2, 3, 4, 5, 6, 7, 8, 9, 10, 11, 12, 13, 14, 15] rfl rfl rfl rfl rfl (by decide) (fun _ => rfl) (fun _ => rfl) rfl 7 0 rfl rfl rfl rfl hl.1 rfl rfl ⟨Nat.le_of_ble_eq_true rfl, Nat.le_of_ble_eq_true rfl⟩ dX7_forced_1 (fun rX u H locs hw1 hP hD hS => ?_)
  obtain ⟨x91, rfl⟩ : ∃ z, z = u := ⟨_, rfl⟩
  try dsimp only at hw1
  obtain ⟨v1, rfl, hv1, hm1, ht1, hx1⟩ := hw1
  have hP : va_P G vwCl [(a 0, .inr (7, [.int (nI (mT x91)), .int (nI (sN (σ))), .ref (a 1), .ref (a 2), .ref (a 3), .ref (a 4), .ref (a 5), .int (nI (sK (σ))), .ref (a 6), .ref (a 7), .ref (a 8), .ref (a 9), .int (sU (σ)), .int (bI (mKn x91)), .ref (a 10), .ref (a 11), .ref (a 12), .ref (a 13), .int (bI (mSa x91)), .int (nI (mPo x91)), .int (nI (mSm x91)), .ref (a 14), .ref (a 15)])), (a 1, .inl (k 0, 12, .inl (nA (sP (σ))))), (a 2, .inl (k 0, 12, .inl (nA (sR (σ))))), (a 3, .inl (k 0, 12, .inl (nA (sC (σ))))), (a 4, .inl (k 0, 12, .inl (nA (sV (σ))))), (a 5, .inl (k 0, 12, .inl (nA (sD (σ))))), (a 6, .inl (k 0, 10, .inl (nA (sKd (σ))))), (a 7, .inl (k 0, 10, .inl (nA (sA (σ))))), (a 8, .inl (k 0, 10, .inl (nA (sB (σ))))), (a 9, .inl (k 1, 10, .inl (bA (sO (σ))))), (a 10, .inl (k 1, 4096, .inl (bA (mPr x91)))), (a 11, .inl (k 1, 4096, .inl (bA (mCa x91)))), (a 12, .inl (k 0, 4096, .inl (nA (mCs x91)))), (a 13, .inl (k 0, 4096, .inl (nA (mVs x91)))), (a 14, .inl (k 0, 576, .inl (nA (mSp x91)))), (a 15, .inl (k 1, 576, .inl (bA (mMi x91))))] H := hP
  have hD : va_D A [(a 0, .inr (7, [.int (nI (mT x91)), .int (nI (sN (σ))), .ref (a 1), .ref (a 2), .ref (a 3), .ref (a 4), .ref (a 5), .int (nI (sK (σ))), .ref (a 6), .ref (a 7), .ref (a 8), .ref (a 9), .int (sU (σ)), .int (bI (mKn x91)), .ref (a 10), .ref (a 11), .ref (a 12), .ref (a 13), .int (bI (mSa x91)), .int (nI (mPo x91)), .int (nI (mSm x91)), .ref (a 14), .ref (a 15)])), (a 1, .inl (k 0, 12, .inl (nA (sP (σ))))), (a 2, .inl (k 0, 12, .inl (nA (sR (σ))))), (a 3, .inl (k 0, 12, .inl (nA (sC (σ))))), (a 4, .inl (k 0, 12, .inl (nA (sV (σ))))), (a 5, .inl (k 0, 12, .inl (nA (sD (σ))))), (a 6, .inl (k 0, 10, .inl (nA (sKd (σ))))), (a 7, .inl (k 0, 10, .inl (nA (sA (σ))))), (a 8, .inl (k 0, 10, .inl (nA (sB (σ))))), (a 9, .inl (k 1, 10, .inl (bA (sO (σ))))), (a 10, .inl (k 1, 4096, .inl (bA (mPr x91)))), (a 11, .inl (k 1, 4096, .inl (bA (mCa x91)))), (a 12, .inl (k 0, 4096, .inl (nA (mCs x91)))), (a 13, .inl (k 0, 4096, .inl (nA (mVs x91)))), (a 14, .inl (k 0, 576, .inl (nA (mSp x91)))), (a 15, .inl (k 1, 576, .inl (bA (mMi x91))))] := hD
  obtain rfl := hv1 rfl
  obtain ⟨-, hkn2, hsa2⟩ := id hm1
  have hk2 := hkn2 hx1
  have hcl := cntC_le hwf
  refine lv_istore_n (lv' := [(1, .int (nI (cntC σ))), (0, .ref (a 0))]) hx hb dX7_forced_4 rfl hl (by decide) rfl (fun ls hl => ?_)
  refine lv_iload_n hx hb dX7_forced_5 rfl (lv_at hl 0 rfl) ?_
  refine n_if_ne (tgt := 13) (by omega) hx hb dX7_forced_6 (by decide) (fun q6 => ?_) (fun q6 => ?_)
  · skip
    refine lv_aload_n hx hb dX7_forced_13 rfl (lv_at hl 1 rfl) ?_
    refine lv_iload_n hx hb dX7_forced_14 rfl (lv_at hl 0 rfl) ?_
    refine cV_i (As := [.int (nI (cntC σ))]) S hP hK hN (m_X7_openWith l G k _ _ _ _ _ _ _ _ _ _ _ _ _ _ _ _ _ _ _ _ _ _ _ _ _ _ _ (by omega) (by omega) (by exact fun i _ => hde i)) gX7_forced_X7_openWith rfl rfl rfl hdV_X7_openWith rfl rfl [0, 5, 11] rfl 7 0 rfl rfl rfl rfl hl.1 rfl rfl ⟨Nat.le_of_ble_eq_true rfl, Nat.le_of_ble_eq_true rfl⟩ dX7_forced_15 (fun rX hr2 => ?_)
    subst hr2
    exact e_mutI (u := (mT x91, mKn x91, mPr x91, mCa x91, mCs x91, mVs x91, mSa x91, mPo x91, mSm x91, mSp x91, mMi x91)) hx hb hr hlk hS hP hK hD (by first | (refine ⟨_, rfl, fun _ => by unfold r_for; rw [if_pos (by omega)], by exact ⟨hwf, fun _ => hk2, hsa2⟩, by assumption⟩) | (refine ⟨_, rfl, fun _ => by unfold r_for; rw [if_neg (by omega), ← kn_ow hk2], by exact ⟨hwf, fun _ => hk2, hsa2⟩, by assumption⟩)) dX7_forced_18
  · skip
    refine n_iconst 0 (by decide) hx hb dX7_forced_9 ?_
    refine lv_goto (tgt := 18) hx hb dX7_forced_10 (by decide) ?_
    exact e_mutI (u := (mT x91, mKn x91, mPr x91, mCa x91, mCs x91, mVs x91, mSa x91, mPo x91, mSm x91, mSp x91, mMi x91)) hx hb hr hlk hS hP hK hD (by first | (refine ⟨_, rfl, fun _ => by unfold r_for; rw [if_pos (by omega)], by exact ⟨hwf, fun _ => hk2, hsa2⟩, by assumption⟩) | (refine ⟨_, rfl, fun _ => by unfold r_for; rw [if_neg (by omega), ← kn_ow hk2], by exact ⟨hwf, fun _ => hk2, hsa2⟩, by assumption⟩)) dX7_forced_18
set_option maxHeartbeats 4000000 in
set_option maxRecDepth 100000 in
theorem m_X7_ruledOut (l : Launch) (G : va_G) (k : Nat → ClassId) (sz : Nat) (a : Nat → Nat) (σ : Sg) (x : Mx)  (hok : MOK σ x) : Met l yX7_ruledOut wsX7_ruledOut ({ frames := 5, cells := 0, slots := 0, locals := 111 } : Room) (va_Pc [.ref (a 0)] (Wm G k (moW k a σ x) sz)) (va_Qi (fun (rX : Int32) (u : (Mx)) => ∃ v : Int32, rX = v ∧ (0 = 0 → v = nI (r_rul σ)) ∧ MOK (σ) u ∧ mT u = 0) (Bm G k (va_A (moW k a σ x) sz) (fun u : (Mx) => moW k a (σ) u)) (va_A (moW k a σ x) sz)) 0 0 (va_A (moW k a σ x) sz) := by
  refine met_mk (cc := cX7_ruledOut) (maxL := 1) (ret := (some .int)) (by decide) rfl rfl ?_
  intro pX eX sX mX bX meX cX S hr hlk hnm hB ls hl
  obtain ⟨hsz, hP, hK, hN, hD0⟩ := hB
  subst hsz
  have hD := hD0.self (sz := sX.heap.size)
  generalize hAe : va_A (moW k a σ x) sX.heap.size = A at hD ⊢
  have hA : ∀ q : Nat, sX.heap.size ≤ q → A q := fun q h => by rw [← hAe]; exact Or.inr h
  have hS : va_S A sX.heap sX.heap [] := va_S.rf
  have hP : va_P G vwCl [(a 0, .inr (7, [.int (nI (mT x)), .int (nI (sN σ)), .ref (a 1), .ref (a 2), .ref (a 3), .ref (a 4), .ref (a 5), .int (nI (sK σ)), .ref (a 6), .ref (a 7), .ref (a 8), .ref (a 9), .int (sU σ), .int (bI (mKn x)), .ref (a 10), .ref (a 11), .ref (a 12), .ref (a 13), .int (bI (mSa x)), .int (nI (mPo x)), .int (nI (mSm x)), .ref (a 14), .ref (a 15)])), (a 1, .inl (k 0, 12, .inl (nA (sP σ)))), (a 2, .inl (k 0, 12, .inl (nA (sR σ)))), (a 3, .inl (k 0, 12, .inl (nA (sC σ)))), (a 4, .inl (k 0, 12, .inl (nA (sV σ)))), (a 5, .inl (k 0, 12, .inl (nA (sD σ)))), (a 6, .inl (k 0, 10, .inl (nA (sKd σ)))), (a 7, .inl (k 0, 10, .inl (nA (sA σ)))), (a 8, .inl (k 0, 10, .inl (nA (sB σ)))), (a 9, .inl (k 1, 10, .inl (bA (sO σ)))), (a 10, .inl (k 1, 4096, .inl (bA (mPr x)))), (a 11, .inl (k 1, 4096, .inl (bA (mCa x)))), (a 12, .inl (k 0, 4096, .inl (nA (mCs x)))), (a 13, .inl (k 0, 4096, .inl (nA (mVs x)))), (a 14, .inl (k 0, 576, .inl (nA (mSp x)))), (a 15, .inl (k 1, 576, .inl (bA (mMi x))))] sX.heap := hP
  have hD : va_D A [(a 0, .inr (7, [.int (nI (mT x)), .int (nI (sN σ)), .ref (a 1), .ref (a 2), .ref (a 3), .ref (a 4), .ref (a 5), .int (nI (sK σ)), .ref (a 6), .ref (a 7), .ref (a 8), .ref (a 9), .int (sU σ), .int (bI (mKn x)), .ref (a 10), .ref (a 11), .ref (a 12), .ref (a 13), .int (bI (mSa x)), .int (nI (mPo x)), .int (nI (mSm x)), .ref (a 14), .ref (a 15)])), (a 1, .inl (k 0, 12, .inl (nA (sP σ)))), (a 2, .inl (k 0, 12, .inl (nA (sR σ)))), (a 3, .inl (k 0, 12, .inl (nA (sC σ)))), (a 4, .inl (k 0, 12, .inl (nA (sV σ)))), (a 5, .inl (k 0, 12, .inl (nA (sD σ)))), (a 6, .inl (k 0, 10, .inl (nA (sKd σ)))), (a 7, .inl (k 0, 10, .inl (nA (sA σ)))), (a 8, .inl (k 0, 10, .inl (nA (sB σ)))), (a 9, .inl (k 1, 10, .inl (bA (sO σ)))), (a 10, .inl (k 1, 4096, .inl (bA (mPr x)))), (a 11, .inl (k 1, 4096, .inl (bA (mCa x)))), (a 12, .inl (k 0, 4096, .inl (nA (mCs x)))), (a 13, .inl (k 0, 4096, .inl (nA (mVs x)))), (a 14, .inl (k 0, 576, .inl (nA (mSp x)))), (a 15, .inl (k 1, 576, .inl (bA (mMi x))))] := hD
  obtain ⟨hx, hb, hml, hown, hts⟩ := id S
  have hown : sX.vm.findClass RX7 = some mX.cls := hown
  have hl : lv_has ls 1 [(0, .ref (a 0))] := hl
  obtain ⟨hwf, hkn, hsa⟩ := id hok
  obtain ⟨hn1, hn, hpl, hpa, hrl, hco, hva, hde, hde0, hkc, hkd, hfa, hfb⟩ := id hwf
  have hpn := pow12 hn
  have hp1 := Nat.one_le_two_pow (n := sN σ)
  refine lv_aload_n hx hb dX7_ruledOut_0 rfl (lv_at hl 0 rfl) ?_
  refine cV_mi (As := []) (wn := fun u : (Mx) => [(a 0, .inr (7, [.int (nI (mT u)), .int (nI (sN (σ))), .ref (a 1), .ref (a 2), .ref (a 3), .ref (a 4), .ref (a 5), .int (nI (sK (σ))), .ref (a 6), .ref (a 7), .ref (a 8), .ref (a 9), .int (sU (σ)), .int (bI (mKn u)), .ref (a 10), .ref (a 11), .ref (a 12), .ref (a 13), .int (bI (mSa u)), .int (nI (mPo u)), .int (nI (mSm u)), .ref (a 14), .ref (a 15)])), (a 1, .inl (k 0, 12, .inl (nA (sP (σ))))), (a 2, .inl (k 0, 12, .inl (nA (sR (σ))))), (a 3, .inl (k 0, 12, .inl (nA (sC (σ))))), (a 4, .inl (k 0, 12, .inl (nA (sV (σ))))), (a 5, .inl (k 0, 12, .inl (nA (sD (σ))))), (a 6, .inl (k 0, 10, .inl (nA (sKd (σ))))), (a 7, .inl (k 0, 10, .inl (nA (sA (σ))))), (a 8, .inl (k 0, 10, .inl (nA (sB (σ))))), (a 9, .inl (k 1, 10, .inl (bA (sO (σ))))), (a 10, .inl (k 1, 4096, .inl (bA (mPr u)))), (a 11, .inl (k 1, 4096, .inl (bA (mCa u)))), (a 12, .inl (k 0, 4096, .inl (nA (mCs u)))), (a 13, .inl (k 0, 4096, .inl (nA (mVs u)))), (a 14, .inl (k 0, 576, .inl (nA (mSp u)))), (a 15, .inl (k 1, 576, .inl (bA (mMi u))))]) S hP hK hN hD hS hA (m_X7_candidateCount l G k _ a σ _ (by assumption)) gX7_ruledOut_X7_candidateCount rfl rfl rfl hdV_X7_candidateCount rfl rfl [0, 1, 2, 3, 4, 5, 6, 7, 8, 9, 10, 11, 12, 13, 14, 15] [] [0, 1, 2, 3, 4, 5, 6, 7, 8, 9, 10, 11, 12, 13, 14, 15] rfl rfl rfl rfl rfl (by decide) (fun _ => rfl) (fun _ => rfl) rfl 7 0 rfl rfl rfl rfl hl.1 rfl rfl ⟨Nat.le_of_ble_eq_true rfl, Nat.le_of_ble_eq_true rfl⟩ dX7_ruledOut_1 (fun rX u H locs hw1 hP hD hS => ?_)
  obtain ⟨x91, rfl⟩ : ∃ z, z = u := ⟨_, rfl⟩
  try dsimp only at hw1
  obtain ⟨v1, rfl, hv1, hm1, ht1, hx1⟩ := hw1
  have hP : va_P G vwCl [(a 0, .inr (7, [.int (nI (mT x91)), .int (nI (sN (σ))), .ref (a 1), .ref (a 2), .ref (a 3), .ref (a 4), .ref (a 5), .int (nI (sK (σ))), .ref (a 6), .ref (a 7), .ref (a 8), .ref (a 9), .int (sU (σ)), .int (bI (mKn x91)), .ref (a 10), .ref (a 11), .ref (a 12), .ref (a 13), .int (bI (mSa x91)), .int (nI (mPo x91)), .int (nI (mSm x91)), .ref (a 14), .ref (a 15)])), (a 1, .inl (k 0, 12, .inl (nA (sP (σ))))), (a 2, .inl (k 0, 12, .inl (nA (sR (σ))))), (a 3, .inl (k 0, 12, .inl (nA (sC (σ))))), (a 4, .inl (k 0, 12, .inl (nA (sV (σ))))), (a 5, .inl (k 0, 12, .inl (nA (sD (σ))))), (a 6, .inl (k 0, 10, .inl (nA (sKd (σ))))), (a 7, .inl (k 0, 10, .inl (nA (sA (σ))))), (a 8, .inl (k 0, 10, .inl (nA (sB (σ))))), (a 9, .inl (k 1, 10, .inl (bA (sO (σ))))), (a 10, .inl (k 1, 4096, .inl (bA (mPr x91)))), (a 11, .inl (k 1, 4096, .inl (bA (mCa x91)))), (a 12, .inl (k 0, 4096, .inl (nA (mCs x91)))), (a 13, .inl (k 0, 4096, .inl (nA (mVs x91)))), (a 14, .inl (k 0, 576, .inl (nA (mSp x91)))), (a 15, .inl (k 1, 576, .inl (bA (mMi x91))))] H := hP
  have hD : va_D A [(a 0, .inr (7, [.int (nI (mT x91)), .int (nI (sN (σ))), .ref (a 1), .ref (a 2), .ref (a 3), .ref (a 4), .ref (a 5), .int (nI (sK (σ))), .ref (a 6), .ref (a 7), .ref (a 8), .ref (a 9), .int (sU (σ)), .int (bI (mKn x91)), .ref (a 10), .ref (a 11), .ref (a 12), .ref (a 13), .int (bI (mSa x91)), .int (nI (mPo x91)), .int (nI (mSm x91)), .ref (a 14), .ref (a 15)])), (a 1, .inl (k 0, 12, .inl (nA (sP (σ))))), (a 2, .inl (k 0, 12, .inl (nA (sR (σ))))), (a 3, .inl (k 0, 12, .inl (nA (sC (σ))))), (a 4, .inl (k 0, 12, .inl (nA (sV (σ))))), (a 5, .inl (k 0, 12, .inl (nA (sD (σ))))), (a 6, .inl (k 0, 10, .inl (nA (sKd (σ))))), (a 7, .inl (k 0, 10, .inl (nA (sA (σ))))), (a 8, .inl (k 0, 10, .inl (nA (sB (σ))))), (a 9, .inl (k 1, 10, .inl (bA (sO (σ))))), (a 10, .inl (k 1, 4096, .inl (bA (mPr x91)))), (a 11, .inl (k 1, 4096, .inl (bA (mCa x91)))), (a 12, .inl (k 0, 4096, .inl (nA (mCs x91)))), (a 13, .inl (k 0, 4096, .inl (nA (mVs x91)))), (a 14, .inl (k 0, 576, .inl (nA (mSp x91)))), (a 15, .inl (k 1, 576, .inl (bA (mMi x91))))] := hD
  obtain rfl := hv1 rfl
  obtain ⟨-, hkn2, hsa2⟩ := id hm1
  have hk2 := hkn2 hx1
  have hcl := cntC_le hwf
  refine n_if_ne (tgt := 11) (by omega) hx hb dX7_ruledOut_4 (by decide) (fun q4 => ?_) (fun q4 => ?_)
  · skip
    refine lv_aload_n hx hb dX7_ruledOut_11 rfl (lv_at hl 0 rfl) ?_
    refine n_iconst 0 (by decide) hx hb dX7_ruledOut_12 ?_
    refine cV_i (As := [.int (nI 0)]) S hP hK hN (m_X7_openWith l G k _ _ _ _ _ _ _ _ _ _ _ _ _ _ _ _ _ _ _ _ _ _ _ _ _ _ _ (by omega) (by decide) (by exact fun i _ => hde i)) gX7_ruledOut_X7_openWith rfl rfl rfl hdV_X7_openWith rfl rfl [0, 5, 11] rfl 7 0 rfl rfl rfl rfl hl.1 rfl rfl ⟨Nat.le_of_ble_eq_true rfl, Nat.le_of_ble_eq_true rfl⟩ dX7_ruledOut_13 (fun rX hr2 => ?_)
    subst hr2
    exact e_mutI (u := (mT x91, mKn x91, mPr x91, mCa x91, mCs x91, mVs x91, mSa x91, mPo x91, mSm x91, mSp x91, mMi x91)) hx hb hr hlk hS hP hK hD (by first | (refine ⟨_, rfl, fun _ => by unfold r_rul; rw [if_pos (by omega)], by exact ⟨hwf, fun _ => hk2, hsa2⟩, by assumption⟩) | (refine ⟨_, rfl, fun _ => by unfold r_rul; rw [if_neg (by omega), ← kn_ow hk2], by exact ⟨hwf, fun _ => hk2, hsa2⟩, by assumption⟩)) dX7_ruledOut_16
  · skip
    refine n_iconst 0 (by decide) hx hb dX7_ruledOut_7 ?_
    refine lv_goto (tgt := 16) hx hb dX7_ruledOut_8 (by decide) ?_
    exact e_mutI (u := (mT x91, mKn x91, mPr x91, mCa x91, mCs x91, mVs x91, mSa x91, mPo x91, mSm x91, mSp x91, mMi x91)) hx hb hr hlk hS hP hK hD (by first | (refine ⟨_, rfl, fun _ => by unfold r_rul; rw [if_pos (by omega)], by exact ⟨hwf, fun _ => hk2, hsa2⟩, by assumption⟩) | (refine ⟨_, rfl, fun _ => by unfold r_rul; rw [if_neg (by omega), ← kn_ow hk2], by exact ⟨hwf, fun _ => hk2, hsa2⟩, by assumption⟩)) dX7_ruledOut_16
set_option maxHeartbeats 4000000 in
set_option maxRecDepth 100000 in
theorem m_X7_question (l : Launch) (G : va_G) (k : Nat → ClassId) (sz : Nat) (a : Nat → Nat) (σ : Sg) (x : Mx)  (hok : MOK σ x) : Met l yX7_question wsX7_question ({ frames := 5, cells := 0, slots := 0, locals := 111 } : Room) (va_Pc [.ref (a 0)] (Wm G k (moW k a σ x) sz)) (va_Qi (fun (rX : Int32) (u : (Mx)) => ∃ v : Int32, rX = v ∧ (0 = 0 → v = oI (quP σ (sN σ)).1) ∧ MOK (σ) u ∧ mT u = 0) (Bm G k (va_A (moW k a σ x) sz) (fun u : (Mx) => moW k a (σ) u)) (va_A (moW k a σ x) sz)) 0 0 (va_A (moW k a σ x) sz) := by
  refine met_mk (cc := cX7_question) (maxL := 7) (ret := (some .int)) (by decide) rfl rfl ?_
  intro pX eX sX mX bX meX cX S hr hlk hnm hB ls hl
  obtain ⟨hsz, hP, hK, hN, hD0⟩ := hB
  subst hsz
  have hD := hD0.self (sz := sX.heap.size)
  generalize hAe : va_A (moW k a σ x) sX.heap.size = A at hD ⊢
  have hA : ∀ q : Nat, sX.heap.size ≤ q → A q := fun q h => by rw [← hAe]; exact Or.inr h
  have hS : va_S A sX.heap sX.heap [] := va_S.rf
  have hP : va_P G vwCl [(a 0, .inr (7, [.int (nI (mT x)), .int (nI (sN σ)), .ref (a 1), .ref (a 2), .ref (a 3), .ref (a 4), .ref (a 5), .int (nI (sK σ)), .ref (a 6), .ref (a 7), .ref (a 8), .ref (a 9), .int (sU σ), .int (bI (mKn x)), .ref (a 10), .ref (a 11), .ref (a 12), .ref (a 13), .int (bI (mSa x)), .int (nI (mPo x)), .int (nI (mSm x)), .ref (a 14), .ref (a 15)])), (a 1, .inl (k 0, 12, .inl (nA (sP σ)))), (a 2, .inl (k 0, 12, .inl (nA (sR σ)))), (a 3, .inl (k 0, 12, .inl (nA (sC σ)))), (a 4, .inl (k 0, 12, .inl (nA (sV σ)))), (a 5, .inl (k 0, 12, .inl (nA (sD σ)))), (a 6, .inl (k 0, 10, .inl (nA (sKd σ)))), (a 7, .inl (k 0, 10, .inl (nA (sA σ)))), (a 8, .inl (k 0, 10, .inl (nA (sB σ)))), (a 9, .inl (k 1, 10, .inl (bA (sO σ)))), (a 10, .inl (k 1, 4096, .inl (bA (mPr x)))), (a 11, .inl (k 1, 4096, .inl (bA (mCa x)))), (a 12, .inl (k 0, 4096, .inl (nA (mCs x)))), (a 13, .inl (k 0, 4096, .inl (nA (mVs x)))), (a 14, .inl (k 0, 576, .inl (nA (mSp x)))), (a 15, .inl (k 1, 576, .inl (bA (mMi x))))] sX.heap := hP
  have hD : va_D A [(a 0, .inr (7, [.int (nI (mT x)), .int (nI (sN σ)), .ref (a 1), .ref (a 2), .ref (a 3), .ref (a 4), .ref (a 5), .int (nI (sK σ)), .ref (a 6), .ref (a 7), .ref (a 8), .ref (a 9), .int (sU σ), .int (bI (mKn x)), .ref (a 10), .ref (a 11), .ref (a 12), .ref (a 13), .int (bI (mSa x)), .int (nI (mPo x)), .int (nI (mSm x)), .ref (a 14), .ref (a 15)])), (a 1, .inl (k 0, 12, .inl (nA (sP σ)))), (a 2, .inl (k 0, 12, .inl (nA (sR σ)))), (a 3, .inl (k 0, 12, .inl (nA (sC σ)))), (a 4, .inl (k 0, 12, .inl (nA (sV σ)))), (a 5, .inl (k 0, 12, .inl (nA (sD σ)))), (a 6, .inl (k 0, 10, .inl (nA (sKd σ)))), (a 7, .inl (k 0, 10, .inl (nA (sA σ)))), (a 8, .inl (k 0, 10, .inl (nA (sB σ)))), (a 9, .inl (k 1, 10, .inl (bA (sO σ)))), (a 10, .inl (k 1, 4096, .inl (bA (mPr x)))), (a 11, .inl (k 1, 4096, .inl (bA (mCa x)))), (a 12, .inl (k 0, 4096, .inl (nA (mCs x)))), (a 13, .inl (k 0, 4096, .inl (nA (mVs x)))), (a 14, .inl (k 0, 576, .inl (nA (mSp x)))), (a 15, .inl (k 1, 576, .inl (bA (mMi x))))] := hD
  obtain ⟨hx, hb, hml, hown, hts⟩ := id S
  have hown : sX.vm.findClass RX7 = some mX.cls := hown
  have hl : lv_has ls 7 [(0, .ref (a 0))] := hl
  have lk0 : (Cond.fieldLink RX7 9 "FeatureAnalyzerModel" "features" "I").before _ sX = true := hts _ (List.mem_cons_of_mem _ (List.mem_append_left _ (List.mem_append_left _ (List.mem_of_getElem? (i := 0) rfl))))
  have inX7 : ∀ w ∈ wsX70, w ∈ wsX7_question := fun w h => List.mem_cons_of_mem _ (List.mem_append_right _ (h))
  have lk1 : (Cond.fieldLink RX7 48 "FeatureAnalyzerModel" "areCandidates" "[Z").before _ sX = true := hts _ (List.mem_cons_of_mem _ (List.mem_append_left _ (List.mem_append_left _ (List.mem_of_getElem? (i := 1) rfl))))
  have lk2 : (Cond.methodLink RX7 153 Lib.Math.abs.name).before _ sX = true := hts _ (List.mem_cons_of_mem _ (List.mem_append_left _ (List.mem_append_left _ (List.mem_of_getElem? (i := 2) rfl))))
  have lk3 : (Cond.static Lib.Math.abs.name).before _ sX = true := hts _ (List.mem_cons_of_mem _ (List.mem_append_left _ (List.mem_append_left _ (List.mem_of_getElem? (i := 3) rfl))))
  have lk4 : (Cond.initialized "java/lang/Math").before _ sX = true := hts _ (List.mem_cons_of_mem _ (List.mem_append_left _ (List.mem_append_left _ (List.mem_of_getElem? (i := 4) rfl))))
  have lk5 : (Cond.code Lib.Math.abs.name Lib.Math.abs.code 1 (some .int)).before _ sX = true := hts _ (List.mem_cons_of_mem _ (List.mem_append_left _ (List.mem_append_left _ (List.mem_of_getElem? (i := 5) rfl))))
  obtain ⟨hwf, hkn, hsa⟩ := id hok
  obtain ⟨hn1, hn, hpl, hpa, hrl, hco, hva, hde, hde0, hkc, hkd, hfa, hfb⟩ := id hwf
  have hpn := pow12 hn
  have hp1 := Nat.one_le_two_pow (n := sN σ)
  refine lv_aload_n hx hb dX7_question_0 rfl (lv_at hl 0 rfl) ?_
  refine cV_mi (As := []) (wn := fun u : (Mx) => [(a 0, .inr (7, [.int (nI (mT u)), .int (nI (sN (σ))), .ref (a 1), .ref (a 2), .ref (a 3), .ref (a 4), .ref (a 5), .int (nI (sK (σ))), .ref (a 6), .ref (a 7), .ref (a 8), .ref (a 9), .int (sU (σ)), .int (bI (mKn u)), .ref (a 10), .ref (a 11), .ref (a 12), .ref (a 13), .int (bI (mSa u)), .int (nI (mPo u)), .int (nI (mSm u)), .ref (a 14), .ref (a 15)])), (a 1, .inl (k 0, 12, .inl (nA (sP (σ))))), (a 2, .inl (k 0, 12, .inl (nA (sR (σ))))), (a 3, .inl (k 0, 12, .inl (nA (sC (σ))))), (a 4, .inl (k 0, 12, .inl (nA (sV (σ))))), (a 5, .inl (k 0, 12, .inl (nA (sD (σ))))), (a 6, .inl (k 0, 10, .inl (nA (sKd (σ))))), (a 7, .inl (k 0, 10, .inl (nA (sA (σ))))), (a 8, .inl (k 0, 10, .inl (nA (sB (σ))))), (a 9, .inl (k 1, 10, .inl (bA (sO (σ))))), (a 10, .inl (k 1, 4096, .inl (bA (mPr u)))), (a 11, .inl (k 1, 4096, .inl (bA (mCa u)))), (a 12, .inl (k 0, 4096, .inl (nA (mCs u)))), (a 13, .inl (k 0, 4096, .inl (nA (mVs u)))), (a 14, .inl (k 0, 576, .inl (nA (mSp u)))), (a 15, .inl (k 1, 576, .inl (bA (mMi u))))]) S hP hK hN hD hS hA (m_X7_candidateCount l G k _ a σ _ (by assumption)) gX7_question_X7_candidateCount rfl rfl rfl hdV_X7_candidateCount rfl rfl [0, 1, 2, 3, 4, 5, 6, 7, 8, 9, 10, 11, 12, 13, 14, 15] [] [0, 1, 2, 3, 4, 5, 6, 7, 8, 9, 10, 11, 12, 13, 14, 15] rfl rfl rfl rfl rfl (by decide) (fun _ => rfl) (fun _ => rfl) rfl 7 0 rfl rfl rfl rfl hl.1 rfl rfl ⟨Nat.le_of_ble_eq_true rfl, Nat.le_of_ble_eq_true rfl⟩ dX7_question_1 (fun rX u H locs hw1 hP hD hS => ?_)
  obtain ⟨x91, rfl⟩ : ∃ z, z = u := ⟨_, rfl⟩
  try dsimp only at hw1
  obtain ⟨v1, rfl, hv1, hm1, ht1, hx1⟩ := hw1
  have hP : va_P G vwCl [(a 0, .inr (7, [.int (nI (mT x91)), .int (nI (sN (σ))), .ref (a 1), .ref (a 2), .ref (a 3), .ref (a 4), .ref (a 5), .int (nI (sK (σ))), .ref (a 6), .ref (a 7), .ref (a 8), .ref (a 9), .int (sU (σ)), .int (bI (mKn x91)), .ref (a 10), .ref (a 11), .ref (a 12), .ref (a 13), .int (bI (mSa x91)), .int (nI (mPo x91)), .int (nI (mSm x91)), .ref (a 14), .ref (a 15)])), (a 1, .inl (k 0, 12, .inl (nA (sP (σ))))), (a 2, .inl (k 0, 12, .inl (nA (sR (σ))))), (a 3, .inl (k 0, 12, .inl (nA (sC (σ))))), (a 4, .inl (k 0, 12, .inl (nA (sV (σ))))), (a 5, .inl (k 0, 12, .inl (nA (sD (σ))))), (a 6, .inl (k 0, 10, .inl (nA (sKd (σ))))), (a 7, .inl (k 0, 10, .inl (nA (sA (σ))))), (a 8, .inl (k 0, 10, .inl (nA (sB (σ))))), (a 9, .inl (k 1, 10, .inl (bA (sO (σ))))), (a 10, .inl (k 1, 4096, .inl (bA (mPr x91)))), (a 11, .inl (k 1, 4096, .inl (bA (mCa x91)))), (a 12, .inl (k 0, 4096, .inl (nA (mCs x91)))), (a 13, .inl (k 0, 4096, .inl (nA (mVs x91)))), (a 14, .inl (k 0, 576, .inl (nA (mSp x91)))), (a 15, .inl (k 1, 576, .inl (bA (mMi x91))))] H := hP
  have hD : va_D A [(a 0, .inr (7, [.int (nI (mT x91)), .int (nI (sN (σ))), .ref (a 1), .ref (a 2), .ref (a 3), .ref (a 4), .ref (a 5), .int (nI (sK (σ))), .ref (a 6), .ref (a 7), .ref (a 8), .ref (a 9), .int (sU (σ)), .int (bI (mKn x91)), .ref (a 10), .ref (a 11), .ref (a 12), .ref (a 13), .int (bI (mSa x91)), .int (nI (mPo x91)), .int (nI (mSm x91)), .ref (a 14), .ref (a 15)])), (a 1, .inl (k 0, 12, .inl (nA (sP (σ))))), (a 2, .inl (k 0, 12, .inl (nA (sR (σ))))), (a 3, .inl (k 0, 12, .inl (nA (sC (σ))))), (a 4, .inl (k 0, 12, .inl (nA (sV (σ))))), (a 5, .inl (k 0, 12, .inl (nA (sD (σ))))), (a 6, .inl (k 0, 10, .inl (nA (sKd (σ))))), (a 7, .inl (k 0, 10, .inl (nA (sA (σ))))), (a 8, .inl (k 0, 10, .inl (nA (sB (σ))))), (a 9, .inl (k 1, 10, .inl (bA (sO (σ))))), (a 10, .inl (k 1, 4096, .inl (bA (mPr x91)))), (a 11, .inl (k 1, 4096, .inl (bA (mCa x91)))), (a 12, .inl (k 0, 4096, .inl (nA (mCs x91)))), (a 13, .inl (k 0, 4096, .inl (nA (mVs x91)))), (a 14, .inl (k 0, 576, .inl (nA (mSp x91)))), (a 15, .inl (k 1, 576, .inl (bA (mMi x91))))] := hD
  obtain rfl := hv1 rfl
  obtain ⟨-, hkn2, hsa2⟩ := id hm1
  have hk2 := hkn2 hx1
  have hcl := cntC_le hwf
  refine lv_istore_n (lv' := [(1, .int (nI (cntC σ))), (0, .ref (a 0))]) hx hb dX7_question_4 rfl hl (by decide) rfl (fun ls hl => ?_)
  refine lv_iconst (v := -1) hx hb dX7_question_5 (by decide) ?_
  refine lv_istore_n (lv' := [(2, .int (-1)), (1, .int (nI (cntC σ))), (0, .ref (a 0))]) hx hb dX7_question_6 rfl hl (by decide) rfl (fun ls hl => ?_)
  refine n_iconst 0 (by decide) hx hb dX7_question_7 ?_
  refine lv_istore_n (lv' := [(3, .int (nI 0)), (2, .int (-1)), (1, .int (nI (cntC σ))), (0, .ref (a 0))]) hx hb dX7_question_8 rfl hl (by decide) rfl (fun ls hl => ?_)
  refine n_iconst 0 (by decide) hx hb dX7_question_9 ?_
  refine lv_istore (lv' := [(4, .int (nI 0)), (3, .int (nI 0)), (2, .int (-1)), (1, .int (nI (cntC σ))), (0, .ref (a 0))]) hx hb dX7_question_10 hl (by decide) rfl (fun ls hl => ?_)
  have L12 : ∀ (NN : Nat) (b8 : Int32) (l9 : Nat) (f9 : Nat), (sN σ - f9) < NN → (f9 ≤ sN σ) → (b8 = oI (quP σ f9).1) → (l9 = (quP σ f9).2) → ∀ (H : Heap) (locs : List Loc), va_P G vwCl [(a 0, .inr (7, [.int (nI (mT x91)), .int (nI (sN (σ))), .ref (a 1), .ref (a 2), .ref (a 3), .ref (a 4), .ref (a 5), .int (nI (sK (σ))), .ref (a 6), .ref (a 7), .ref (a 8), .ref (a 9), .int (sU (σ)), .int (bI (mKn x91)), .ref (a 10), .ref (a 11), .ref (a 12), .ref (a 13), .int (bI (mSa x91)), .int (nI (mPo x91)), .int (nI (mSm x91)), .ref (a 14), .ref (a 15)])), (a 1, .inl (k 0, 12, .inl (nA (sP (σ))))), (a 2, .inl (k 0, 12, .inl (nA (sR (σ))))), (a 3, .inl (k 0, 12, .inl (nA (sC (σ))))), (a 4, .inl (k 0, 12, .inl (nA (sV (σ))))), (a 5, .inl (k 0, 12, .inl (nA (sD (σ))))), (a 6, .inl (k 0, 10, .inl (nA (sKd (σ))))), (a 7, .inl (k 0, 10, .inl (nA (sA (σ))))), (a 8, .inl (k 0, 10, .inl (nA (sB (σ))))), (a 9, .inl (k 1, 10, .inl (bA (sO (σ))))), (a 10, .inl (k 1, 4096, .inl (bA (mPr x91)))), (a 11, .inl (k 1, 4096, .inl (bA (mCa x91)))), (a 12, .inl (k 0, 4096, .inl (nA (mCs x91)))), (a 13, .inl (k 0, 4096, .inl (nA (mVs x91)))), (a 14, .inl (k 0, 576, .inl (nA (mSp x91)))), (a 15, .inl (k 1, 576, .inl (bA (mMi x91))))] H → va_D A [(a 0, .inr (7, [.int (nI (mT x91)), .int (nI (sN (σ))), .ref (a 1), .ref (a 2), .ref (a 3), .ref (a 4), .ref (a 5), .int (nI (sK (σ))), .ref (a 6), .ref (a 7), .ref (a 8), .ref (a 9), .int (sU (σ)), .int (bI (mKn x91)), .ref (a 10), .ref (a 11), .ref (a 12), .ref (a 13), .int (bI (mSa x91)), .int (nI (mPo x91)), .int (nI (mSm x91)), .ref (a 14), .ref (a 15)])), (a 1, .inl (k 0, 12, .inl (nA (sP (σ))))), (a 2, .inl (k 0, 12, .inl (nA (sR (σ))))), (a 3, .inl (k 0, 12, .inl (nA (sC (σ))))), (a 4, .inl (k 0, 12, .inl (nA (sV (σ))))), (a 5, .inl (k 0, 12, .inl (nA (sD (σ))))), (a 6, .inl (k 0, 10, .inl (nA (sKd (σ))))), (a 7, .inl (k 0, 10, .inl (nA (sA (σ))))), (a 8, .inl (k 0, 10, .inl (nA (sB (σ))))), (a 9, .inl (k 1, 10, .inl (bA (sO (σ))))), (a 10, .inl (k 1, 4096, .inl (bA (mPr x91)))), (a 11, .inl (k 1, 4096, .inl (bA (mCa x91)))), (a 12, .inl (k 0, 4096, .inl (nA (mCs x91)))), (a 13, .inl (k 0, 4096, .inl (nA (mVs x91)))), (a 14, .inl (k 0, 576, .inl (nA (mSp x91)))), (a 15, .inl (k 1, 576, .inl (bA (mMi x91))))] → va_S A sX.heap H locs → ∀ ls : Array Slot, lv_has ls 7 [(0, .ref (a 0)), (1, .int (nI (cntC σ))), (2, .int b8), (3, .int (nI l9)), (4, .int (nI f9))] → W pX l eX ({ frames := 5, cells := 0, slots := 0, locals := 111 } : Room) sX mX ([.ref (a 0)] : List Value).toArray bX meX cX H locs 0 0 (MQ bX (va_Qi (fun (rX : Int32) (u : (Mx)) => ∃ v : Int32, rX = v ∧ (0 = 0 → v = oI (quP σ (sN σ)).1) ∧ MOK (σ) u ∧ mT u = 0) (Bm G k A (fun u : (Mx) => moW k a (σ) u)) A) ([.ref (a 0)] : List Value).toArray sX 0 0 A) (F0 mX 12 ls []) := by
    intro NN
    induction NN with
    | zero => intro b8 l9 f9 hm9; exact absurd hm9 (Nat.not_lt_zero _)
    | succ NN ih12 =>
      intro b8 l9 f9 hm9 hi ex el H locs hP hD hS ls hl
      refine lv_iload hx hb dX7_question_12 (lv_at hl 4 rfl) ?_
      refine lv_aload_n hx hb dX7_question_14 rfl (lv_at hl 0 rfl) ?_
      refine va_get (D := G) (ci := 7) (v := .int (nI (sN (σ)))) (C := RX7) (T := TX7) (N := 23) hx hb hts inX7 hown hK hP 0 rfl rfl 1 (by decide) lk0 (fun _ h9 => h9) rfl dX7_question_15 ?_
      refine n_icmp_ge (tgt := 81) (by omega) (by omega) hx hb dX7_question_18 (by decide) (fun q18 => ?_) (fun q18 => ?_)
      · skip
        refine lv_iload_n hx hb dX7_question_81 rfl (lv_at hl 2 rfl) ?_
        exact e_mutI (u := (mT x91, mKn x91, mPr x91, mCa x91, mCs x91, mVs x91, mSa x91, mPo x91, mSm x91, mSp x91, mMi x91)) hx hb hr hlk hS hP hK hD (by refine ⟨_, rfl, fun _ => by rw [ex, show f9 = sN σ by omega], by exact ⟨hwf, fun _ => hk2, hsa2⟩, by assumption⟩) dX7_question_82
      · skip
        refine lv_aload_n hx hb dX7_question_21 rfl (lv_at hl 0 rfl) ?_
        refine lv_aload_n hx hb dX7_question_22 rfl (lv_at hl 0 rfl) ?_
        refine va_get (D := G) (ci := 7) (v := .ref (a 11)) (C := RX7) (T := TX7) (N := 23) hx hb hts inX7 hown hK hP 0 rfl rfl 15 (by decide) lk1 (fun _ h9 => h9) rfl dX7_question_23 ?_
        refine lv_iload hx hb dX7_question_26 (lv_at hl 4 rfl) ?_
        refine cV_i (As := [.ref (a 11), .int (nI f9)]) S hP hK hN (m_X7_countWith l G k _ _ _ _ _ _ _ _ _ _ _ _ _ _ _ _ _ _ _ _ _ _ _ _ _ _ _ (by omega) (by omega)) gX7_question_X7_countWith rfl rfl rfl hdV_X7_countWith rfl rfl [0, 11] rfl 7 0 rfl rfl rfl rfl hl.1 rfl rfl ⟨Nat.le_of_ble_eq_true rfl, Nat.le_of_ble_eq_true rfl⟩ dX7_question_28 (fun rX hr2 => ?_)
        subst hr2
        rw [kn_wc hk2 f9]
        have hwl := cwC_le hwf f9
        refine lv_istore (lv' := [(5, .int (nI (cwC σ f9))), (0, .ref (a 0)), (1, .int (nI (cntC σ))), (2, .int b8), (3, .int (nI l9)), (4, .int (nI f9))]) hx hb dX7_question_31 hl (by decide) rfl (fun ls hl => ?_)
        refine n_iconst 2 (by decide) hx hb dX7_question_33 ?_
        refine lv_iload hx hb dX7_question_34 (lv_at hl 0 rfl) ?_
        refine n_imul hx hb dX7_question_36 ?_
        refine lv_iload_n hx hb dX7_question_37 rfl (lv_at hl 2 rfl) ?_
        refine lv_isub hx hb dX7_question_38 ?_
        refine n_abs hx hb (hml.trans hl.1.symm) hown lk2 lk3 lk4 lk5 rfl rfl (Nat.le_of_ble_eq_true rfl) (Nat.le_of_ble_eq_true rfl) dX7_question_39 ?_
        rw [absN (by omega) (by omega)]
        have hdl : dfN (cwC σ f9) (cntC σ) ≤ 8192 := by unfold dfN; split <;> omega
        have hll := quP_le hwf (i := f9)
        have hob : ∀ x, (quP σ f9).1 = some x → x < 2147483648 := fun x h => by have := quP_lt h; omega
        refine lv_istore (lv' := [(6, .int (nI (dfN (cwC σ f9) (cntC σ)))), (5, .int (nI (cwC σ f9))), (0, .ref (a 0)), (1, .int (nI (cntC σ))), (2, .int b8), (3, .int (nI l9)), (4, .int (nI f9))]) hx hb dX7_question_42 hl (by decide) rfl (fun ls hl => ?_)
        refine lv_iload hx hb dX7_question_44 (lv_at hl 1 rfl) ?_
        refine n_if_eq (tgt := 75) (by omega) hx hb dX7_question_46 (by decide) (fun q46 => ?_) (fun q46 => ?_)
        · skip
          have hq := quP_keep (σ := σ) (f := f9) (Or.inl q46)
          refine n_iinc (lv' := [(4, .int (nI (f9 + 1))), (6, .int (nI (dfN (cwC σ f9) (cntC σ)))), (5, .int (nI (cwC σ f9))), (0, .ref (a 0)), (1, .int (nI (cntC σ))), (2, .int b8), (3, .int (nI l9))]) (k := 6) 1 hx hb dX7_question_75 hl rfl (by decide) (by decide) rfl (fun ls hl => ?_)
          refine lv_goto (tgt := 12) hx hb dX7_question_78 (by decide) ?_
          exact ih12 (b8) (l9) (f9 + 1) (by omega) (by omega) (by first | (rw [hq]; exact ex) | (rw [hq]; rfl)) (by first | (rw [hq]; exact el) | (rw [hq])) _ _ hP hD hS _ (lv_sub hl [3, 4, 5, 6, 0] rfl)
        · skip
          refine lv_iload hx hb dX7_question_49 (lv_at hl 1 rfl) ?_
          refine lv_iload_n hx hb dX7_question_51 rfl (lv_at hl 3 rfl) ?_
          refine n_icmp_eq (tgt := 75) (by omega) (by omega) hx hb dX7_question_52 (by decide) (fun q52 => ?_) (fun q52 => ?_)
          · skip
            have hq := quP_keep (σ := σ) (f := f9) (Or.inr (Or.inl q52))
            refine n_iinc (lv' := [(4, .int (nI (f9 + 1))), (6, .int (nI (dfN (cwC σ f9) (cntC σ)))), (5, .int (nI (cwC σ f9))), (0, .ref (a 0)), (1, .int (nI (cntC σ))), (2, .int b8), (3, .int (nI l9))]) (k := 6) 1 hx hb dX7_question_75 hl rfl (by decide) (by decide) rfl (fun ls hl => ?_)
            refine lv_goto (tgt := 12) hx hb dX7_question_78 (by decide) ?_
            exact ih12 (b8) (l9) (f9 + 1) (by omega) (by omega) (by first | (rw [hq]; exact ex) | (rw [hq]; rfl)) (by first | (rw [hq]; exact el) | (rw [hq])) _ _ hP hD hS _ (lv_sub hl [3, 4, 5, 6, 0] rfl)
          · skip
            refine lv_iload_n hx hb dX7_question_55 rfl (lv_at hl 4 rfl) ?_
            refine lv_iconst (v := -1) hx hb dX7_question_56 (by decide) ?_
            refine lv_icmp_eq (tgt := 69) hx hb dX7_question_57 (by decide) (fun q57 => ?_) (fun q57 => ?_)
            · skip
              have hn0 := (oI_none hob).mp (ex.symm.trans q57)
              have hq := quP_take (σ := σ) (f := f9) (fun z => by rcases z with z | z | z <;> first | omega | exact q52 z | exact z.1 hn0)
              refine lv_iload hx hb dX7_question_69 (lv_at hl 6 rfl) ?_
              refine lv_istore_n (lv' := [(2, .int (nI f9)), (6, .int (nI (dfN (cwC σ f9) (cntC σ)))), (5, .int (nI (cwC σ f9))), (0, .ref (a 0)), (1, .int (nI (cntC σ))), (3, .int (nI l9)), (4, .int (nI f9))]) hx hb dX7_question_71 rfl hl (by decide) rfl (fun ls hl => ?_)
              refine lv_iload hx hb dX7_question_72 (lv_at hl 1 rfl) ?_
              refine lv_istore_n (lv' := [(3, .int (nI (dfN (cwC σ f9) (cntC σ)))), (2, .int (nI f9)), (6, .int (nI (dfN (cwC σ f9) (cntC σ)))), (5, .int (nI (cwC σ f9))), (0, .ref (a 0)), (1, .int (nI (cntC σ))), (4, .int (nI f9))]) hx hb dX7_question_74 rfl hl (by decide) rfl (fun ls hl => ?_)
              refine n_iinc (lv' := [(4, .int (nI (f9 + 1))), (3, .int (nI (dfN (cwC σ f9) (cntC σ)))), (2, .int (nI f9)), (6, .int (nI (dfN (cwC σ f9) (cntC σ)))), (5, .int (nI (cwC σ f9))), (0, .ref (a 0)), (1, .int (nI (cntC σ)))]) (k := 6) 1 hx hb dX7_question_75 hl rfl (by decide) (by decide) rfl (fun ls hl => ?_)
              refine lv_goto (tgt := 12) hx hb dX7_question_78 (by decide) ?_
              exact ih12 ((nI f9)) (dfN (cwC σ f9) (cntC σ)) (f9 + 1) (by omega) (by omega) (by first | (rw [hq]; exact ex) | (rw [hq]; rfl)) (by first | (rw [hq]; exact el) | (rw [hq])) _ _ hP hD hS _ (lv_sub hl [5, 6, 2, 1, 0] rfl)
            · skip
              have hn0 : (quP σ f9).1 ≠ none := fun z => q57 (by rw [ex, z]; rfl)
              refine lv_iload hx hb dX7_question_60 (lv_at hl 0 rfl) ?_
              refine lv_iload_n hx hb dX7_question_62 rfl (lv_at hl 5 rfl) ?_
              refine n_icmp_lt (tgt := 69) (by omega) (by omega) hx hb dX7_question_63 (by decide) (fun q63 => ?_) (fun q63 => ?_)
              · skip
                have hq := quP_take (σ := σ) (f := f9) (fun z => by rcases z with z | z | z <;> first | omega | exact q52 z)
                refine lv_iload hx hb dX7_question_69 (lv_at hl 6 rfl) ?_
                refine lv_istore_n (lv' := [(2, .int (nI f9)), (6, .int (nI (dfN (cwC σ f9) (cntC σ)))), (5, .int (nI (cwC σ f9))), (0, .ref (a 0)), (1, .int (nI (cntC σ))), (3, .int (nI l9)), (4, .int (nI f9))]) hx hb dX7_question_71 rfl hl (by decide) rfl (fun ls hl => ?_)
                refine lv_iload hx hb dX7_question_72 (lv_at hl 1 rfl) ?_
                refine lv_istore_n (lv' := [(3, .int (nI (dfN (cwC σ f9) (cntC σ)))), (2, .int (nI f9)), (6, .int (nI (dfN (cwC σ f9) (cntC σ)))), (5, .int (nI (cwC σ f9))), (0, .ref (a 0)), (1, .int (nI (cntC σ))), (4, .int (nI f9))]) hx hb dX7_question_74 rfl hl (by decide) rfl (fun ls hl => ?_)
                refine n_iinc (lv' := [(4, .int (nI (f9 + 1))), (3, .int (nI (dfN (cwC σ f9) (cntC σ)))), (2, .int (nI f9)), (6, .int (nI (dfN (cwC σ f9) (cntC σ)))), (5, .int (nI (cwC σ f9))), (0, .ref (a 0)), (1, .int (nI (cntC σ)))]) (k := 6) 1 hx hb dX7_question_75 hl rfl (by decide) (by decide) rfl (fun ls hl => ?_)
                refine lv_goto (tgt := 12) hx hb dX7_question_78 (by decide) ?_
                exact ih12 ((nI f9)) (dfN (cwC σ f9) (cntC σ)) (f9 + 1) (by omega) (by omega) (by first | (rw [hq]; exact ex) | (rw [hq]; rfl)) (by first | (rw [hq]; exact el) | (rw [hq])) _ _ hP hD hS _ (lv_sub hl [5, 6, 2, 1, 0] rfl)
              · skip
                have hq := quP_keep (σ := σ) (f := f9) (Or.inr (Or.inr ⟨hn0, by omega⟩))
                refine lv_goto (tgt := 75) hx hb dX7_question_66 (by decide) ?_
                refine n_iinc (lv' := [(4, .int (nI (f9 + 1))), (6, .int (nI (dfN (cwC σ f9) (cntC σ)))), (5, .int (nI (cwC σ f9))), (0, .ref (a 0)), (1, .int (nI (cntC σ))), (2, .int b8), (3, .int (nI l9))]) (k := 6) 1 hx hb dX7_question_75 hl rfl (by decide) (by decide) rfl (fun ls hl => ?_)
                refine lv_goto (tgt := 12) hx hb dX7_question_78 (by decide) ?_
                exact ih12 (b8) (l9) (f9 + 1) (by omega) (by omega) (by first | (rw [hq]; exact ex) | (rw [hq]; rfl)) (by first | (rw [hq]; exact el) | (rw [hq])) _ _ hP hD hS _ (lv_sub hl [3, 4, 5, 6, 0] rfl)
  exact L12 _ ((-1)) (0) (0) (Nat.lt_succ_self _) (by omega) (by rfl) (by rfl) _ _ hP hD hS _ (lv_sub hl [4, 3, 2, 1, 0] rfl)
set_option maxHeartbeats 4000000 in
set_option maxRecDepth 100000 in
theorem m_X7_cheapest (l : Launch) (G : va_G) (k : Nat → ClassId) (sz : Nat) (a : Nat → Nat) (σ : Sg) (x : Mx)  (hok : MOK σ x) : Met l yX7_cheapest wsX7_cheapest ({ frames := 4, cells := 0, slots := 0, locals := 91 } : Room) (va_Pc [.ref (a 0)] (Wm G k (moW k a σ x) sz)) (va_Qi (fun (rX : Int32) (u : (Mx)) => ∃ v : Int32, rX = v ∧ (0 = 0 → v = oI (r_che σ)) ∧ MOK (σ) u ∧ mT u = 0) (Bm G k (va_A (moW k a σ x) sz) (fun u : (Mx) => moW k a (σ) u)) (va_A (moW k a σ x) sz)) 0 0 (va_A (moW k a σ x) sz) := by
  refine met_mk (cc := cX7_cheapest) (maxL := 3) (ret := (some .int)) (by decide) rfl rfl ?_
  intro pX eX sX mX bX meX cX S hr hlk hnm hB ls hl
  obtain ⟨hsz, hP, hK, hN, hD0⟩ := hB
  subst hsz
  have hD := hD0.self (sz := sX.heap.size)
  generalize hAe : va_A (moW k a σ x) sX.heap.size = A at hD ⊢
  have hA : ∀ q : Nat, sX.heap.size ≤ q → A q := fun q h => by rw [← hAe]; exact Or.inr h
  have hS : va_S A sX.heap sX.heap [] := va_S.rf
  have hP : va_P G vwCl [(a 0, .inr (7, [.int (nI (mT x)), .int (nI (sN σ)), .ref (a 1), .ref (a 2), .ref (a 3), .ref (a 4), .ref (a 5), .int (nI (sK σ)), .ref (a 6), .ref (a 7), .ref (a 8), .ref (a 9), .int (sU σ), .int (bI (mKn x)), .ref (a 10), .ref (a 11), .ref (a 12), .ref (a 13), .int (bI (mSa x)), .int (nI (mPo x)), .int (nI (mSm x)), .ref (a 14), .ref (a 15)])), (a 1, .inl (k 0, 12, .inl (nA (sP σ)))), (a 2, .inl (k 0, 12, .inl (nA (sR σ)))), (a 3, .inl (k 0, 12, .inl (nA (sC σ)))), (a 4, .inl (k 0, 12, .inl (nA (sV σ)))), (a 5, .inl (k 0, 12, .inl (nA (sD σ)))), (a 6, .inl (k 0, 10, .inl (nA (sKd σ)))), (a 7, .inl (k 0, 10, .inl (nA (sA σ)))), (a 8, .inl (k 0, 10, .inl (nA (sB σ)))), (a 9, .inl (k 1, 10, .inl (bA (sO σ)))), (a 10, .inl (k 1, 4096, .inl (bA (mPr x)))), (a 11, .inl (k 1, 4096, .inl (bA (mCa x)))), (a 12, .inl (k 0, 4096, .inl (nA (mCs x)))), (a 13, .inl (k 0, 4096, .inl (nA (mVs x)))), (a 14, .inl (k 0, 576, .inl (nA (mSp x)))), (a 15, .inl (k 1, 576, .inl (bA (mMi x))))] sX.heap := hP
  have hD : va_D A [(a 0, .inr (7, [.int (nI (mT x)), .int (nI (sN σ)), .ref (a 1), .ref (a 2), .ref (a 3), .ref (a 4), .ref (a 5), .int (nI (sK σ)), .ref (a 6), .ref (a 7), .ref (a 8), .ref (a 9), .int (sU σ), .int (bI (mKn x)), .ref (a 10), .ref (a 11), .ref (a 12), .ref (a 13), .int (bI (mSa x)), .int (nI (mPo x)), .int (nI (mSm x)), .ref (a 14), .ref (a 15)])), (a 1, .inl (k 0, 12, .inl (nA (sP σ)))), (a 2, .inl (k 0, 12, .inl (nA (sR σ)))), (a 3, .inl (k 0, 12, .inl (nA (sC σ)))), (a 4, .inl (k 0, 12, .inl (nA (sV σ)))), (a 5, .inl (k 0, 12, .inl (nA (sD σ)))), (a 6, .inl (k 0, 10, .inl (nA (sKd σ)))), (a 7, .inl (k 0, 10, .inl (nA (sA σ)))), (a 8, .inl (k 0, 10, .inl (nA (sB σ)))), (a 9, .inl (k 1, 10, .inl (bA (sO σ)))), (a 10, .inl (k 1, 4096, .inl (bA (mPr x)))), (a 11, .inl (k 1, 4096, .inl (bA (mCa x)))), (a 12, .inl (k 0, 4096, .inl (nA (mCs x)))), (a 13, .inl (k 0, 4096, .inl (nA (mVs x)))), (a 14, .inl (k 0, 576, .inl (nA (mSp x)))), (a 15, .inl (k 1, 576, .inl (bA (mMi x))))] := hD
  obtain ⟨hx, hb, hml, hown, hts⟩ := id S
  have hown : sX.vm.findClass RX7 = some mX.cls := hown
  have hl : lv_has ls 3 [(0, .ref (a 0))] := hl
  have lk0 : (Cond.fieldLink RX7 63 "FeatureAnalyzerModel" "thrown" "I").before _ sX = true := hts _ (List.mem_cons_of_mem _ (List.mem_append_left _ (List.mem_append_left _ (List.mem_of_getElem? (i := 0) rfl))))
  have inX7 : ∀ w ∈ wsX70, w ∈ wsX7_cheapest := fun w h => List.mem_cons_of_mem _ (List.mem_append_right _ (h))
  have lk1 : (Cond.fieldLink RX7 9 "FeatureAnalyzerModel" "features" "I").before _ sX = true := hts _ (List.mem_cons_of_mem _ (List.mem_append_left _ (List.mem_append_left _ (List.mem_of_getElem? (i := 1) rfl))))
  have lk2 : (Cond.fieldLink RX7 48 "FeatureAnalyzerModel" "areCandidates" "[Z").before _ sX = true := hts _ (List.mem_cons_of_mem _ (List.mem_append_left _ (List.mem_append_left _ (List.mem_of_getElem? (i := 2) rfl))))
  have lk3 : (Cond.fieldLink RX7 51 "FeatureAnalyzerModel" "costSums" "[I").before _ sX = true := hts _ (List.mem_cons_of_mem _ (List.mem_append_left _ (List.mem_append_left _ (List.mem_of_getElem? (i := 3) rfl))))
  obtain ⟨hwf, hkn, hsa⟩ := id hok
  obtain ⟨hn1, hn, hpl, hpa, hrl, hco, hva, hde, hde0, hkc, hkd, hfa, hfb⟩ := id hwf
  have hpn := pow12 hn
  have hp1 := Nat.one_le_two_pow (n := sN σ)
  refine lv_aload_n hx hb dX7_cheapest_0 rfl (lv_at hl 0 rfl) ?_
  refine n_iconst 0 (by decide) hx hb dX7_cheapest_1 ?_
  refine va_put (D := G) (ci := 7) (v := .int (nI 0)) (ty := .int) (C := RX7) (T := TX7) (N := 23) hx hb hts inX7 tyX7 tyX7_ok nmX7 hown hK hP hD hS 0 rfl rfl 0 (by decide) lk0 (fun _ h9 => h9) rfl rfl rfl rfl (Nat.le_of_ble_eq_true rfl) dX7_cheapest_2 (fun H locs hP hD hS => ?_)
  have hP : va_P G vwCl [(a 0, .inr (7, [.int (nI 0), .int (nI (sN σ)), .ref (a 1), .ref (a 2), .ref (a 3), .ref (a 4), .ref (a 5), .int (nI (sK σ)), .ref (a 6), .ref (a 7), .ref (a 8), .ref (a 9), .int (sU σ), .int (bI (mKn x)), .ref (a 10), .ref (a 11), .ref (a 12), .ref (a 13), .int (bI (mSa x)), .int (nI (mPo x)), .int (nI (mSm x)), .ref (a 14), .ref (a 15)])), (a 1, .inl (k 0, 12, .inl (nA (sP σ)))), (a 2, .inl (k 0, 12, .inl (nA (sR σ)))), (a 3, .inl (k 0, 12, .inl (nA (sC σ)))), (a 4, .inl (k 0, 12, .inl (nA (sV σ)))), (a 5, .inl (k 0, 12, .inl (nA (sD σ)))), (a 6, .inl (k 0, 10, .inl (nA (sKd σ)))), (a 7, .inl (k 0, 10, .inl (nA (sA σ)))), (a 8, .inl (k 0, 10, .inl (nA (sB σ)))), (a 9, .inl (k 1, 10, .inl (bA (sO σ)))), (a 10, .inl (k 1, 4096, .inl (bA (mPr x)))), (a 11, .inl (k 1, 4096, .inl (bA (mCa x)))), (a 12, .inl (k 0, 4096, .inl (nA (mCs x)))), (a 13, .inl (k 0, 4096, .inl (nA (mVs x)))), (a 14, .inl (k 0, 576, .inl (nA (mSp x)))), (a 15, .inl (k 1, 576, .inl (bA (mMi x))))] H := hP
  have hD : va_D A [(a 0, .inr (7, [.int (nI 0), .int (nI (sN σ)), .ref (a 1), .ref (a 2), .ref (a 3), .ref (a 4), .ref (a 5), .int (nI (sK σ)), .ref (a 6), .ref (a 7), .ref (a 8), .ref (a 9), .int (sU σ), .int (bI (mKn x)), .ref (a 10), .ref (a 11), .ref (a 12), .ref (a 13), .int (bI (mSa x)), .int (nI (mPo x)), .int (nI (mSm x)), .ref (a 14), .ref (a 15)])), (a 1, .inl (k 0, 12, .inl (nA (sP σ)))), (a 2, .inl (k 0, 12, .inl (nA (sR σ)))), (a 3, .inl (k 0, 12, .inl (nA (sC σ)))), (a 4, .inl (k 0, 12, .inl (nA (sV σ)))), (a 5, .inl (k 0, 12, .inl (nA (sD σ)))), (a 6, .inl (k 0, 10, .inl (nA (sKd σ)))), (a 7, .inl (k 0, 10, .inl (nA (sA σ)))), (a 8, .inl (k 0, 10, .inl (nA (sB σ)))), (a 9, .inl (k 1, 10, .inl (bA (sO σ)))), (a 10, .inl (k 1, 4096, .inl (bA (mPr x)))), (a 11, .inl (k 1, 4096, .inl (bA (mCa x)))), (a 12, .inl (k 0, 4096, .inl (nA (mCs x)))), (a 13, .inl (k 0, 4096, .inl (nA (mVs x)))), (a 14, .inl (k 0, 576, .inl (nA (mSp x)))), (a 15, .inl (k 1, 576, .inl (bA (mMi x))))] := hD
  refine lv_aload_n hx hb dX7_cheapest_5 rfl (lv_at hl 0 rfl) ?_
  refine cV_mv (As := []) (wn := fun u : (Nat → Bool) × (Nat → Bool) × (Nat → Nat) × (Nat → Nat) => [(a 0, .inr (7, [.int (nI 0), .int (nI (sN σ)), .ref (a 1), .ref (a 2), .ref (a 3), .ref (a 4), .ref (a 5), .int (nI (sK σ)), .ref (a 6), .ref (a 7), .ref (a 8), .ref (a 9), .int (sU σ), .int (bI true), .ref (a 10), .ref (a 11), .ref (a 12), .ref (a 13), .int (bI (mSa x)), .int (nI (mPo x)), .int (nI (mSm x)), .ref (a 14), .ref (a 15)])), (a 1, .inl (k 0, 12, .inl (nA (sP σ)))), (a 2, .inl (k 0, 12, .inl (nA (sR σ)))), (a 3, .inl (k 0, 12, .inl (nA (sC σ)))), (a 4, .inl (k 0, 12, .inl (nA (sV σ)))), (a 5, .inl (k 0, 12, .inl (nA (sD σ)))), (a 6, .inl (k 0, 10, .inl (nA (sKd σ)))), (a 7, .inl (k 0, 10, .inl (nA (sA σ)))), (a 8, .inl (k 0, 10, .inl (nA (sB σ)))), (a 9, .inl (k 1, 10, .inl (bA (sO σ)))), (a 10, .inl (k 1, 4096, .inl (bA u.1))), (a 11, .inl (k 1, 4096, .inl (bA u.2.1))), (a 12, .inl (k 0, 4096, .inl (nA u.2.2.1))), (a 13, .inl (k 0, 4096, .inl (nA u.2.2.2))), (a 14, .inl (k 0, 576, .inl (nA (mSp x)))), (a 15, .inl (k 1, 576, .inl (bA (mMi x))))]) S hP hK hN hD hS hA (m_X7_know l G k _ a σ _ _ _ _ _ _ _ _ _ _ _ (by assumption) (by assumption)) gX7_cheapest_X7_know rfl rfl rfl hdV_X7_know rfl rfl [0, 1, 2, 3, 4, 5, 6, 7, 8, 9, 10, 11, 12, 13, 14, 15] [] [0, 1, 2, 3, 4, 5, 6, 7, 8, 9, 10, 11, 12, 13, 14, 15] rfl rfl rfl rfl rfl (by decide) (fun _ => rfl) (fun _ => rfl) rfl 7 0 rfl rfl rfl rfl hl.1 rfl rfl ⟨Nat.le_of_ble_eq_true rfl, Nat.le_of_ble_eq_true rfl⟩ dX7_cheapest_6 (fun u H locs hw1 hP hD hS => ?_)
  obtain ⟨pr91, ca91, cs91, vs91⟩ := u
  try dsimp only at hw1
  have hk1 := hw1
  have hP : va_P G vwCl [(a 0, .inr (7, [.int (nI 0), .int (nI (sN σ)), .ref (a 1), .ref (a 2), .ref (a 3), .ref (a 4), .ref (a 5), .int (nI (sK σ)), .ref (a 6), .ref (a 7), .ref (a 8), .ref (a 9), .int (sU σ), .int (bI true), .ref (a 10), .ref (a 11), .ref (a 12), .ref (a 13), .int (bI (mSa x)), .int (nI (mPo x)), .int (nI (mSm x)), .ref (a 14), .ref (a 15)])), (a 1, .inl (k 0, 12, .inl (nA (sP σ)))), (a 2, .inl (k 0, 12, .inl (nA (sR σ)))), (a 3, .inl (k 0, 12, .inl (nA (sC σ)))), (a 4, .inl (k 0, 12, .inl (nA (sV σ)))), (a 5, .inl (k 0, 12, .inl (nA (sD σ)))), (a 6, .inl (k 0, 10, .inl (nA (sKd σ)))), (a 7, .inl (k 0, 10, .inl (nA (sA σ)))), (a 8, .inl (k 0, 10, .inl (nA (sB σ)))), (a 9, .inl (k 1, 10, .inl (bA (sO σ)))), (a 10, .inl (k 1, 4096, .inl (bA pr91))), (a 11, .inl (k 1, 4096, .inl (bA ca91))), (a 12, .inl (k 0, 4096, .inl (nA cs91))), (a 13, .inl (k 0, 4096, .inl (nA vs91))), (a 14, .inl (k 0, 576, .inl (nA (mSp x)))), (a 15, .inl (k 1, 576, .inl (bA (mMi x))))] H := hP
  have hD : va_D A [(a 0, .inr (7, [.int (nI 0), .int (nI (sN σ)), .ref (a 1), .ref (a 2), .ref (a 3), .ref (a 4), .ref (a 5), .int (nI (sK σ)), .ref (a 6), .ref (a 7), .ref (a 8), .ref (a 9), .int (sU σ), .int (bI true), .ref (a 10), .ref (a 11), .ref (a 12), .ref (a 13), .int (bI (mSa x)), .int (nI (mPo x)), .int (nI (mSm x)), .ref (a 14), .ref (a 15)])), (a 1, .inl (k 0, 12, .inl (nA (sP σ)))), (a 2, .inl (k 0, 12, .inl (nA (sR σ)))), (a 3, .inl (k 0, 12, .inl (nA (sC σ)))), (a 4, .inl (k 0, 12, .inl (nA (sV σ)))), (a 5, .inl (k 0, 12, .inl (nA (sD σ)))), (a 6, .inl (k 0, 10, .inl (nA (sKd σ)))), (a 7, .inl (k 0, 10, .inl (nA (sA σ)))), (a 8, .inl (k 0, 10, .inl (nA (sB σ)))), (a 9, .inl (k 1, 10, .inl (bA (sO σ)))), (a 10, .inl (k 1, 4096, .inl (bA pr91))), (a 11, .inl (k 1, 4096, .inl (bA ca91))), (a 12, .inl (k 0, 4096, .inl (nA cs91))), (a 13, .inl (k 0, 4096, .inl (nA vs91))), (a 14, .inl (k 0, 576, .inl (nA (mSp x)))), (a 15, .inl (k 1, 576, .inl (bA (mMi x))))] := hD
  refine lv_iconst (v := -1) hx hb dX7_cheapest_9 (by decide) ?_
  refine lv_istore_n (lv' := [(1, .int (-1)), (0, .ref (a 0))]) hx hb dX7_cheapest_10 rfl hl (by decide) rfl (fun ls hl => ?_)
  refine n_iconst 0 (by decide) hx hb dX7_cheapest_11 ?_
  refine lv_istore_n (lv' := [(2, .int (nI 0)), (1, .int (-1)), (0, .ref (a 0))]) hx hb dX7_cheapest_12 rfl hl (by decide) rfl (fun ls hl => ?_)
  have L13 : ∀ (NN : Nat) (b8 : Int32) (i : Nat), (2 ^ sN σ - i) < NN → (i ≤ 2 ^ sN σ) → (b8 = oI (fstO (candB σ) (fun c b => decide (csS σ c < csS σ b)) i)) → ∀ (H : Heap) (locs : List Loc), va_P G vwCl [(a 0, .inr (7, [.int (nI 0), .int (nI (sN σ)), .ref (a 1), .ref (a 2), .ref (a 3), .ref (a 4), .ref (a 5), .int (nI (sK σ)), .ref (a 6), .ref (a 7), .ref (a 8), .ref (a 9), .int (sU σ), .int (bI true), .ref (a 10), .ref (a 11), .ref (a 12), .ref (a 13), .int (bI (mSa x)), .int (nI (mPo x)), .int (nI (mSm x)), .ref (a 14), .ref (a 15)])), (a 1, .inl (k 0, 12, .inl (nA (sP σ)))), (a 2, .inl (k 0, 12, .inl (nA (sR σ)))), (a 3, .inl (k 0, 12, .inl (nA (sC σ)))), (a 4, .inl (k 0, 12, .inl (nA (sV σ)))), (a 5, .inl (k 0, 12, .inl (nA (sD σ)))), (a 6, .inl (k 0, 10, .inl (nA (sKd σ)))), (a 7, .inl (k 0, 10, .inl (nA (sA σ)))), (a 8, .inl (k 0, 10, .inl (nA (sB σ)))), (a 9, .inl (k 1, 10, .inl (bA (sO σ)))), (a 10, .inl (k 1, 4096, .inl (bA pr91))), (a 11, .inl (k 1, 4096, .inl (bA ca91))), (a 12, .inl (k 0, 4096, .inl (nA cs91))), (a 13, .inl (k 0, 4096, .inl (nA vs91))), (a 14, .inl (k 0, 576, .inl (nA (mSp x)))), (a 15, .inl (k 1, 576, .inl (bA (mMi x))))] H → va_D A [(a 0, .inr (7, [.int (nI 0), .int (nI (sN σ)), .ref (a 1), .ref (a 2), .ref (a 3), .ref (a 4), .ref (a 5), .int (nI (sK σ)), .ref (a 6), .ref (a 7), .ref (a 8), .ref (a 9), .int (sU σ), .int (bI true), .ref (a 10), .ref (a 11), .ref (a 12), .ref (a 13), .int (bI (mSa x)), .int (nI (mPo x)), .int (nI (mSm x)), .ref (a 14), .ref (a 15)])), (a 1, .inl (k 0, 12, .inl (nA (sP σ)))), (a 2, .inl (k 0, 12, .inl (nA (sR σ)))), (a 3, .inl (k 0, 12, .inl (nA (sC σ)))), (a 4, .inl (k 0, 12, .inl (nA (sV σ)))), (a 5, .inl (k 0, 12, .inl (nA (sD σ)))), (a 6, .inl (k 0, 10, .inl (nA (sKd σ)))), (a 7, .inl (k 0, 10, .inl (nA (sA σ)))), (a 8, .inl (k 0, 10, .inl (nA (sB σ)))), (a 9, .inl (k 1, 10, .inl (bA (sO σ)))), (a 10, .inl (k 1, 4096, .inl (bA pr91))), (a 11, .inl (k 1, 4096, .inl (bA ca91))), (a 12, .inl (k 0, 4096, .inl (nA cs91))), (a 13, .inl (k 0, 4096, .inl (nA vs91))), (a 14, .inl (k 0, 576, .inl (nA (mSp x)))), (a 15, .inl (k 1, 576, .inl (bA (mMi x))))] → va_S A sX.heap H locs → ∀ ls : Array Slot, lv_has ls 3 [(0, .ref (a 0)), (1, .int b8), (2, .int (nI i))] → W pX l eX ({ frames := 4, cells := 0, slots := 0, locals := 91 } : Room) sX mX ([.ref (a 0)] : List Value).toArray bX meX cX H locs 0 0 (MQ bX (va_Qi (fun (rX : Int32) (u : (Mx)) => ∃ v : Int32, rX = v ∧ (0 = 0 → v = oI (r_che σ)) ∧ MOK (σ) u ∧ mT u = 0) (Bm G k A (fun u : (Mx) => moW k a (σ) u)) A) ([.ref (a 0)] : List Value).toArray sX 0 0 A) (F0 mX 13 ls []) := by
    intro NN
    induction NN with
    | zero => intro b8 i hm9; exact absurd hm9 (Nat.not_lt_zero _)
    | succ NN ih13 =>
      intro b8 i hm9 hi ex H locs hP hD hS ls hl
      refine lv_iload_n hx hb dX7_cheapest_13 rfl (lv_at hl 2 rfl) ?_
      refine n_iconst 1 (by decide) hx hb dX7_cheapest_14 ?_
      refine lv_aload_n hx hb dX7_cheapest_15 rfl (lv_at hl 0 rfl) ?_
      refine va_get (D := G) (ci := 7) (v := .int (nI (sN σ))) (C := RX7) (T := TX7) (N := 23) hx hb hts inX7 hown hK hP 0 rfl rfl 1 (by decide) lk1 (fun _ h9 => h9) rfl dX7_cheapest_16 ?_
      refine n_ishl1 (by omega) hx hb dX7_cheapest_19 ?_
      refine n_icmp_ge (tgt := 60) (by omega) (by omega) hx hb dX7_cheapest_20 (by decide) (fun q20 => ?_) (fun q20 => ?_)
      · skip
        refine lv_iload_n hx hb dX7_cheapest_60 rfl (lv_at hl 1 rfl) ?_
        exact e_mutI (u := (0, true, pr91, ca91, cs91, vs91, mSa x, mPo x, mSm x, mSp x, mMi x)) hx hb hr hlk hS hP hK hD (by refine ⟨_, rfl, fun _ => by rw [ex, show i = 2 ^ sN σ by omega]; rfl, by exact ⟨hwf, fun _ => hk1, hsa⟩, by rfl⟩) dX7_cheapest_61
      · skip
        have hob : ∀ x, fstO (candB σ) (fun c b => decide (csS σ c < csS σ b)) i = some x → x < 2147483648 := fun x h => by have := (fstO_lt h).1; omega
        have hci := csS_le hwf i
        refine lv_aload_n hx hb dX7_cheapest_23 rfl (lv_at hl 0 rfl) ?_
        refine va_get (D := G) (ci := 7) (v := .ref (a 11)) (C := RX7) (T := TX7) (N := 23) hx hb hts inX7 hown hK hP 0 rfl rfl 15 (by decide) lk2 (fun _ h9 => h9) rfl dX7_cheapest_24 ?_
        refine lv_iload_n hx hb dX7_cheapest_27 rfl (lv_at hl 2 rfl) ?_
        refine b_bald hx hb hK hP 11 rfl (by omega) (by first | decide | omega) dX7_cheapest_28 ?_
        refine b_if_eq (tgt := 54) hx hb dX7_cheapest_29 (by decide) (fun q29 => ?_) (fun q29 => ?_)
        · skip
          have hc : candB σ i = false := by rw [← (hk1 i (by omega)).2.1]; exact q29
          have hq := fstO_no (bt := (fun c b => decide (csS σ c < csS σ b))) hc
          refine n_iinc (lv' := [(2, .int (nI (i + 1))), (0, .ref (a 0)), (1, .int b8)]) (k := 2) 1 hx hb dX7_cheapest_54 hl rfl (by decide) (by decide) rfl (fun ls hl => ?_)
          refine lv_goto (tgt := 13) hx hb dX7_cheapest_57 (by decide) ?_
          exact ih13 (b8) (i + 1) (by omega) (by omega) (by first | (rw [hq]; exact ex) | (rw [hq]; rfl)) _ _ hP hD hS _ (lv_sub hl [1, 2, 0] rfl)
        · skip
          have hc : candB σ i = true := by rw [← (hk1 i (by omega)).2.1]; exact q29
          refine lv_iload_n hx hb dX7_cheapest_32 rfl (lv_at hl 1 rfl) ?_
          refine lv_iconst (v := -1) hx hb dX7_cheapest_33 (by decide) ?_
          refine lv_icmp_eq (tgt := 52) hx hb dX7_cheapest_34 (by decide) (fun q34 => ?_) (fun q34 => ?_)
          · skip
            have hq := fstO_first (bt := (fun c b => decide (csS σ c < csS σ b))) hc ((oI_none hob).mp (ex.symm.trans q34))
            refine lv_iload_n hx hb dX7_cheapest_52 rfl (lv_at hl 2 rfl) ?_
            refine lv_istore_n (lv' := [(1, .int (nI i)), (0, .ref (a 0)), (2, .int (nI i))]) hx hb dX7_cheapest_53 rfl hl (by decide) rfl (fun ls hl => ?_)
            refine n_iinc (lv' := [(2, .int (nI (i + 1))), (1, .int (nI i)), (0, .ref (a 0))]) (k := 2) 1 hx hb dX7_cheapest_54 hl rfl (by decide) (by decide) rfl (fun ls hl => ?_)
            refine lv_goto (tgt := 13) hx hb dX7_cheapest_57 (by decide) ?_
            exact ih13 ((nI i)) (i + 1) (by omega) (by omega) (by first | (rw [hq]; exact ex) | (rw [hq]; rfl)) _ _ hP hD hS _ (lv_sub hl [2, 1, 0] rfl)
          · skip
            obtain ⟨b9, hb9⟩ : ∃ b, fstO (candB σ) (fun c b => decide (csS σ c < csS σ b)) i = some b := by cases h : fstO (candB σ) (fun c b => decide (csS σ c < csS σ b)) i with | none => exact absurd (by rw [ex, h]; rfl) q34 | some b => exact ⟨b, rfl⟩
            obtain rfl : b8 = nI b9 := by rw [ex, hb9]; rfl
            have hbl := (fstO_lt hb9).1
            have hki := hk1 i (by omega)
            have hkb := hk1 b9 (by omega)
            have hcb := csS_le hwf b9
            have e1 := hki.2.2.1
            have e2 := hkb.2.2.1
            refine lv_aload_n hx hb dX7_cheapest_37 rfl (lv_at hl 0 rfl) ?_
            refine va_get (D := G) (ci := 7) (v := .ref (a 12)) (C := RX7) (T := TX7) (N := 23) hx hb hts inX7 hown hK hP 0 rfl rfl 16 (by decide) lk3 (fun _ h9 => h9) rfl dX7_cheapest_38 ?_
            refine lv_iload_n hx hb dX7_cheapest_41 rfl (lv_at hl 2 rfl) ?_
            refine n_iald hx hb hK hP 12 rfl (by omega) (by first | decide | omega) dX7_cheapest_42 ?_
            refine lv_aload_n hx hb dX7_cheapest_43 rfl (lv_at hl 0 rfl) ?_
            refine va_get (D := G) (ci := 7) (v := .ref (a 12)) (C := RX7) (T := TX7) (N := 23) hx hb hts inX7 hown hK hP 0 rfl rfl 16 (by decide) lk3 (fun _ h9 => h9) rfl dX7_cheapest_44 ?_
            refine lv_iload_n hx hb dX7_cheapest_47 rfl (lv_at hl 1 rfl) ?_
            refine n_iald hx hb hK hP 12 rfl (by omega) (by first | decide | omega) dX7_cheapest_48 ?_
            refine n_icmp_ge (tgt := 54) (by omega) (by omega) hx hb dX7_cheapest_49 (by decide) (fun q49 => ?_) (fun q49 => ?_)
            · skip
              have hq := fstO_keep hc hb9 (decide_eq_false (by omega))
              refine n_iinc (lv' := [(2, .int (nI (i + 1))), (0, .ref (a 0)), (1, .int (nI b9))]) (k := 2) 1 hx hb dX7_cheapest_54 hl rfl (by decide) (by decide) rfl (fun ls hl => ?_)
              refine lv_goto (tgt := 13) hx hb dX7_cheapest_57 (by decide) ?_
              exact ih13 ((nI b9)) (i + 1) (by omega) (by omega) (by first | (rw [hq]; exact ex) | (rw [hq]; rfl)) _ _ hP hD hS _ (lv_sub hl [1, 2, 0] rfl)
            · skip
              have hq := fstO_better hc hb9 (decide_eq_true (by omega))
              refine lv_iload_n hx hb dX7_cheapest_52 rfl (lv_at hl 2 rfl) ?_
              refine lv_istore_n (lv' := [(1, .int (nI i)), (0, .ref (a 0)), (2, .int (nI i))]) hx hb dX7_cheapest_53 rfl hl (by decide) rfl (fun ls hl => ?_)
              refine n_iinc (lv' := [(2, .int (nI (i + 1))), (1, .int (nI i)), (0, .ref (a 0))]) (k := 2) 1 hx hb dX7_cheapest_54 hl rfl (by decide) (by decide) rfl (fun ls hl => ?_)
              refine lv_goto (tgt := 13) hx hb dX7_cheapest_57 (by decide) ?_
              exact ih13 ((nI i)) (i + 1) (by omega) (by omega) (by first | (rw [hq]; exact ex) | (rw [hq]; rfl)) _ _ hP hD hS _ (lv_sub hl [2, 1, 0] rfl)
  exact L13 _ ((-1)) (0) (Nat.lt_succ_self _) (by omega) (by rfl) _ _ hP hD hS _ (lv_sub hl [2, 1, 0] rfl)
set_option maxHeartbeats 4000000 in
set_option maxRecDepth 100000 in
theorem m_X7_best (l : Launch) (G : va_G) (k : Nat → ClassId) (sz : Nat) (a : Nat → Nat) (σ : Sg) (x : Mx)  (hok : MOK σ x) : Met l yX7_best wsX7_best ({ frames := 4, cells := 0, slots := 0, locals := 91 } : Room) (va_Pc [.ref (a 0)] (Wm G k (moW k a σ x) sz)) (va_Qi (fun (rX : Int32) (u : (Mx)) => ∃ v : Int32, rX = v ∧ (0 = 0 → v = oI (r_bes σ)) ∧ MOK (σ) u ∧ mT u = 0) (Bm G k (va_A (moW k a σ x) sz) (fun u : (Mx) => moW k a (σ) u)) (va_A (moW k a σ x) sz)) 0 0 (va_A (moW k a σ x) sz) := by
  refine met_mk (cc := cX7_best) (maxL := 4) (ret := (some .int)) (by decide) rfl rfl ?_
  intro pX eX sX mX bX meX cX S hr hlk hnm hB ls hl
  obtain ⟨hsz, hP, hK, hN, hD0⟩ := hB
  subst hsz
  have hD := hD0.self (sz := sX.heap.size)
  generalize hAe : va_A (moW k a σ x) sX.heap.size = A at hD ⊢
  have hA : ∀ q : Nat, sX.heap.size ≤ q → A q := fun q h => by rw [← hAe]; exact Or.inr h
  have hS : va_S A sX.heap sX.heap [] := va_S.rf
  have hP : va_P G vwCl [(a 0, .inr (7, [.int (nI (mT x)), .int (nI (sN σ)), .ref (a 1), .ref (a 2), .ref (a 3), .ref (a 4), .ref (a 5), .int (nI (sK σ)), .ref (a 6), .ref (a 7), .ref (a 8), .ref (a 9), .int (sU σ), .int (bI (mKn x)), .ref (a 10), .ref (a 11), .ref (a 12), .ref (a 13), .int (bI (mSa x)), .int (nI (mPo x)), .int (nI (mSm x)), .ref (a 14), .ref (a 15)])), (a 1, .inl (k 0, 12, .inl (nA (sP σ)))), (a 2, .inl (k 0, 12, .inl (nA (sR σ)))), (a 3, .inl (k 0, 12, .inl (nA (sC σ)))), (a 4, .inl (k 0, 12, .inl (nA (sV σ)))), (a 5, .inl (k 0, 12, .inl (nA (sD σ)))), (a 6, .inl (k 0, 10, .inl (nA (sKd σ)))), (a 7, .inl (k 0, 10, .inl (nA (sA σ)))), (a 8, .inl (k 0, 10, .inl (nA (sB σ)))), (a 9, .inl (k 1, 10, .inl (bA (sO σ)))), (a 10, .inl (k 1, 4096, .inl (bA (mPr x)))), (a 11, .inl (k 1, 4096, .inl (bA (mCa x)))), (a 12, .inl (k 0, 4096, .inl (nA (mCs x)))), (a 13, .inl (k 0, 4096, .inl (nA (mVs x)))), (a 14, .inl (k 0, 576, .inl (nA (mSp x)))), (a 15, .inl (k 1, 576, .inl (bA (mMi x))))] sX.heap := hP
  have hD : va_D A [(a 0, .inr (7, [.int (nI (mT x)), .int (nI (sN σ)), .ref (a 1), .ref (a 2), .ref (a 3), .ref (a 4), .ref (a 5), .int (nI (sK σ)), .ref (a 6), .ref (a 7), .ref (a 8), .ref (a 9), .int (sU σ), .int (bI (mKn x)), .ref (a 10), .ref (a 11), .ref (a 12), .ref (a 13), .int (bI (mSa x)), .int (nI (mPo x)), .int (nI (mSm x)), .ref (a 14), .ref (a 15)])), (a 1, .inl (k 0, 12, .inl (nA (sP σ)))), (a 2, .inl (k 0, 12, .inl (nA (sR σ)))), (a 3, .inl (k 0, 12, .inl (nA (sC σ)))), (a 4, .inl (k 0, 12, .inl (nA (sV σ)))), (a 5, .inl (k 0, 12, .inl (nA (sD σ)))), (a 6, .inl (k 0, 10, .inl (nA (sKd σ)))), (a 7, .inl (k 0, 10, .inl (nA (sA σ)))), (a 8, .inl (k 0, 10, .inl (nA (sB σ)))), (a 9, .inl (k 1, 10, .inl (bA (sO σ)))), (a 10, .inl (k 1, 4096, .inl (bA (mPr x)))), (a 11, .inl (k 1, 4096, .inl (bA (mCa x)))), (a 12, .inl (k 0, 4096, .inl (nA (mCs x)))), (a 13, .inl (k 0, 4096, .inl (nA (mVs x)))), (a 14, .inl (k 0, 576, .inl (nA (mSp x)))), (a 15, .inl (k 1, 576, .inl (bA (mMi x))))] := hD
  obtain ⟨hx, hb, hml, hown, hts⟩ := id S
  have hown : sX.vm.findClass RX7 = some mX.cls := hown
  have hl : lv_has ls 4 [(0, .ref (a 0))] := hl
  have lk0 : (Cond.fieldLink RX7 63 "FeatureAnalyzerModel" "thrown" "I").before _ sX = true := hts _ (List.mem_cons_of_mem _ (List.mem_append_left _ (List.mem_append_left _ (List.mem_of_getElem? (i := 0) rfl))))
  have inX7 : ∀ w ∈ wsX70, w ∈ wsX7_best := fun w h => List.mem_cons_of_mem _ (List.mem_append_right _ (h))
  have lk1 : (Cond.fieldLink RX7 9 "FeatureAnalyzerModel" "features" "I").before _ sX = true := hts _ (List.mem_cons_of_mem _ (List.mem_append_left _ (List.mem_append_left _ (List.mem_of_getElem? (i := 1) rfl))))
  have lk2 : (Cond.fieldLink RX7 48 "FeatureAnalyzerModel" "areCandidates" "[Z").before _ sX = true := hts _ (List.mem_cons_of_mem _ (List.mem_append_left _ (List.mem_append_left _ (List.mem_of_getElem? (i := 2) rfl))))
  have lk3 : (Cond.fieldLink RX7 54 "FeatureAnalyzerModel" "valueSums" "[I").before _ sX = true := hts _ (List.mem_cons_of_mem _ (List.mem_append_left _ (List.mem_append_left _ (List.mem_of_getElem? (i := 3) rfl))))
  have lk4 : (Cond.fieldLink RX7 51 "FeatureAnalyzerModel" "costSums" "[I").before _ sX = true := hts _ (List.mem_cons_of_mem _ (List.mem_append_left _ (List.mem_append_left _ (List.mem_of_getElem? (i := 4) rfl))))
  obtain ⟨hwf, hkn, hsa⟩ := id hok
  obtain ⟨hn1, hn, hpl, hpa, hrl, hco, hva, hde, hde0, hkc, hkd, hfa, hfb⟩ := id hwf
  have hpn := pow12 hn
  have hp1 := Nat.one_le_two_pow (n := sN σ)
  refine lv_aload_n hx hb dX7_best_0 rfl (lv_at hl 0 rfl) ?_
  refine n_iconst 0 (by decide) hx hb dX7_best_1 ?_
  refine va_put (D := G) (ci := 7) (v := .int (nI 0)) (ty := .int) (C := RX7) (T := TX7) (N := 23) hx hb hts inX7 tyX7 tyX7_ok nmX7 hown hK hP hD hS 0 rfl rfl 0 (by decide) lk0 (fun _ h9 => h9) rfl rfl rfl rfl (Nat.le_of_ble_eq_true rfl) dX7_best_2 (fun H locs hP hD hS => ?_)
  have hP : va_P G vwCl [(a 0, .inr (7, [.int (nI 0), .int (nI (sN σ)), .ref (a 1), .ref (a 2), .ref (a 3), .ref (a 4), .ref (a 5), .int (nI (sK σ)), .ref (a 6), .ref (a 7), .ref (a 8), .ref (a 9), .int (sU σ), .int (bI (mKn x)), .ref (a 10), .ref (a 11), .ref (a 12), .ref (a 13), .int (bI (mSa x)), .int (nI (mPo x)), .int (nI (mSm x)), .ref (a 14), .ref (a 15)])), (a 1, .inl (k 0, 12, .inl (nA (sP σ)))), (a 2, .inl (k 0, 12, .inl (nA (sR σ)))), (a 3, .inl (k 0, 12, .inl (nA (sC σ)))), (a 4, .inl (k 0, 12, .inl (nA (sV σ)))), (a 5, .inl (k 0, 12, .inl (nA (sD σ)))), (a 6, .inl (k 0, 10, .inl (nA (sKd σ)))), (a 7, .inl (k 0, 10, .inl (nA (sA σ)))), (a 8, .inl (k 0, 10, .inl (nA (sB σ)))), (a 9, .inl (k 1, 10, .inl (bA (sO σ)))), (a 10, .inl (k 1, 4096, .inl (bA (mPr x)))), (a 11, .inl (k 1, 4096, .inl (bA (mCa x)))), (a 12, .inl (k 0, 4096, .inl (nA (mCs x)))), (a 13, .inl (k 0, 4096, .inl (nA (mVs x)))), (a 14, .inl (k 0, 576, .inl (nA (mSp x)))), (a 15, .inl (k 1, 576, .inl (bA (mMi x))))] H := hP
  have hD : va_D A [(a 0, .inr (7, [.int (nI 0), .int (nI (sN σ)), .ref (a 1), .ref (a 2), .ref (a 3), .ref (a 4), .ref (a 5), .int (nI (sK σ)), .ref (a 6), .ref (a 7), .ref (a 8), .ref (a 9), .int (sU σ), .int (bI (mKn x)), .ref (a 10), .ref (a 11), .ref (a 12), .ref (a 13), .int (bI (mSa x)), .int (nI (mPo x)), .int (nI (mSm x)), .ref (a 14), .ref (a 15)])), (a 1, .inl (k 0, 12, .inl (nA (sP σ)))), (a 2, .inl (k 0, 12, .inl (nA (sR σ)))), (a 3, .inl (k 0, 12, .inl (nA (sC σ)))), (a 4, .inl (k 0, 12, .inl (nA (sV σ)))), (a 5, .inl (k 0, 12, .inl (nA (sD σ)))), (a 6, .inl (k 0, 10, .inl (nA (sKd σ)))), (a 7, .inl (k 0, 10, .inl (nA (sA σ)))), (a 8, .inl (k 0, 10, .inl (nA (sB σ)))), (a 9, .inl (k 1, 10, .inl (bA (sO σ)))), (a 10, .inl (k 1, 4096, .inl (bA (mPr x)))), (a 11, .inl (k 1, 4096, .inl (bA (mCa x)))), (a 12, .inl (k 0, 4096, .inl (nA (mCs x)))), (a 13, .inl (k 0, 4096, .inl (nA (mVs x)))), (a 14, .inl (k 0, 576, .inl (nA (mSp x)))), (a 15, .inl (k 1, 576, .inl (bA (mMi x))))] := hD
  refine lv_aload_n hx hb dX7_best_5 rfl (lv_at hl 0 rfl) ?_
  refine cV_mv (As := []) (wn := fun u : (Nat → Bool) × (Nat → Bool) × (Nat → Nat) × (Nat → Nat) => [(a 0, .inr (7, [.int (nI 0), .int (nI (sN σ)), .ref (a 1), .ref (a 2), .ref (a 3), .ref (a 4), .ref (a 5), .int (nI (sK σ)), .ref (a 6), .ref (a 7), .ref (a 8), .ref (a 9), .int (sU σ), .int (bI true), .ref (a 10), .ref (a 11), .ref (a 12), .ref (a 13), .int (bI (mSa x)), .int (nI (mPo x)), .int (nI (mSm x)), .ref (a 14), .ref (a 15)])), (a 1, .inl (k 0, 12, .inl (nA (sP σ)))), (a 2, .inl (k 0, 12, .inl (nA (sR σ)))), (a 3, .inl (k 0, 12, .inl (nA (sC σ)))), (a 4, .inl (k 0, 12, .inl (nA (sV σ)))), (a 5, .inl (k 0, 12, .inl (nA (sD σ)))), (a 6, .inl (k 0, 10, .inl (nA (sKd σ)))), (a 7, .inl (k 0, 10, .inl (nA (sA σ)))), (a 8, .inl (k 0, 10, .inl (nA (sB σ)))), (a 9, .inl (k 1, 10, .inl (bA (sO σ)))), (a 10, .inl (k 1, 4096, .inl (bA u.1))), (a 11, .inl (k 1, 4096, .inl (bA u.2.1))), (a 12, .inl (k 0, 4096, .inl (nA u.2.2.1))), (a 13, .inl (k 0, 4096, .inl (nA u.2.2.2))), (a 14, .inl (k 0, 576, .inl (nA (mSp x)))), (a 15, .inl (k 1, 576, .inl (bA (mMi x))))]) S hP hK hN hD hS hA (m_X7_know l G k _ a σ _ _ _ _ _ _ _ _ _ _ _ (by assumption) (by assumption)) gX7_best_X7_know rfl rfl rfl hdV_X7_know rfl rfl [0, 1, 2, 3, 4, 5, 6, 7, 8, 9, 10, 11, 12, 13, 14, 15] [] [0, 1, 2, 3, 4, 5, 6, 7, 8, 9, 10, 11, 12, 13, 14, 15] rfl rfl rfl rfl rfl (by decide) (fun _ => rfl) (fun _ => rfl) rfl 7 0 rfl rfl rfl rfl hl.1 rfl rfl ⟨Nat.le_of_ble_eq_true rfl, Nat.le_of_ble_eq_true rfl⟩ dX7_best_6 (fun u H locs hw1 hP hD hS => ?_)
  obtain ⟨pr91, ca91, cs91, vs91⟩ := u
  try dsimp only at hw1
  have hk1 := hw1
  have hP : va_P G vwCl [(a 0, .inr (7, [.int (nI 0), .int (nI (sN σ)), .ref (a 1), .ref (a 2), .ref (a 3), .ref (a 4), .ref (a 5), .int (nI (sK σ)), .ref (a 6), .ref (a 7), .ref (a 8), .ref (a 9), .int (sU σ), .int (bI true), .ref (a 10), .ref (a 11), .ref (a 12), .ref (a 13), .int (bI (mSa x)), .int (nI (mPo x)), .int (nI (mSm x)), .ref (a 14), .ref (a 15)])), (a 1, .inl (k 0, 12, .inl (nA (sP σ)))), (a 2, .inl (k 0, 12, .inl (nA (sR σ)))), (a 3, .inl (k 0, 12, .inl (nA (sC σ)))), (a 4, .inl (k 0, 12, .inl (nA (sV σ)))), (a 5, .inl (k 0, 12, .inl (nA (sD σ)))), (a 6, .inl (k 0, 10, .inl (nA (sKd σ)))), (a 7, .inl (k 0, 10, .inl (nA (sA σ)))), (a 8, .inl (k 0, 10, .inl (nA (sB σ)))), (a 9, .inl (k 1, 10, .inl (bA (sO σ)))), (a 10, .inl (k 1, 4096, .inl (bA pr91))), (a 11, .inl (k 1, 4096, .inl (bA ca91))), (a 12, .inl (k 0, 4096, .inl (nA cs91))), (a 13, .inl (k 0, 4096, .inl (nA vs91))), (a 14, .inl (k 0, 576, .inl (nA (mSp x)))), (a 15, .inl (k 1, 576, .inl (bA (mMi x))))] H := hP
  have hD : va_D A [(a 0, .inr (7, [.int (nI 0), .int (nI (sN σ)), .ref (a 1), .ref (a 2), .ref (a 3), .ref (a 4), .ref (a 5), .int (nI (sK σ)), .ref (a 6), .ref (a 7), .ref (a 8), .ref (a 9), .int (sU σ), .int (bI true), .ref (a 10), .ref (a 11), .ref (a 12), .ref (a 13), .int (bI (mSa x)), .int (nI (mPo x)), .int (nI (mSm x)), .ref (a 14), .ref (a 15)])), (a 1, .inl (k 0, 12, .inl (nA (sP σ)))), (a 2, .inl (k 0, 12, .inl (nA (sR σ)))), (a 3, .inl (k 0, 12, .inl (nA (sC σ)))), (a 4, .inl (k 0, 12, .inl (nA (sV σ)))), (a 5, .inl (k 0, 12, .inl (nA (sD σ)))), (a 6, .inl (k 0, 10, .inl (nA (sKd σ)))), (a 7, .inl (k 0, 10, .inl (nA (sA σ)))), (a 8, .inl (k 0, 10, .inl (nA (sB σ)))), (a 9, .inl (k 1, 10, .inl (bA (sO σ)))), (a 10, .inl (k 1, 4096, .inl (bA pr91))), (a 11, .inl (k 1, 4096, .inl (bA ca91))), (a 12, .inl (k 0, 4096, .inl (nA cs91))), (a 13, .inl (k 0, 4096, .inl (nA vs91))), (a 14, .inl (k 0, 576, .inl (nA (mSp x)))), (a 15, .inl (k 1, 576, .inl (bA (mMi x))))] := hD
  refine lv_iconst (v := -1) hx hb dX7_best_9 (by decide) ?_
  refine lv_istore_n (lv' := [(1, .int (-1)), (0, .ref (a 0))]) hx hb dX7_best_10 rfl hl (by decide) rfl (fun ls hl => ?_)
  refine n_iconst 0 (by decide) hx hb dX7_best_11 ?_
  refine lv_istore_n (lv' := [(2, .int (nI 0)), (1, .int (-1)), (0, .ref (a 0))]) hx hb dX7_best_12 rfl hl (by decide) rfl (fun ls hl => ?_)
  have L13 : ∀ (NN : Nat) (b8 : Int32) (i : Nat), (2 ^ sN σ - i) < NN → (i ≤ 2 ^ sN σ) → (b8 = oI (fstO (candB σ) (fun c b => decide (vsS σ b < vsS σ c) || (decide (vsS σ c = vsS σ b) && decide (csS σ c < csS σ b))) i)) → ∀ (H : Heap) (locs : List Loc), va_P G vwCl [(a 0, .inr (7, [.int (nI 0), .int (nI (sN σ)), .ref (a 1), .ref (a 2), .ref (a 3), .ref (a 4), .ref (a 5), .int (nI (sK σ)), .ref (a 6), .ref (a 7), .ref (a 8), .ref (a 9), .int (sU σ), .int (bI true), .ref (a 10), .ref (a 11), .ref (a 12), .ref (a 13), .int (bI (mSa x)), .int (nI (mPo x)), .int (nI (mSm x)), .ref (a 14), .ref (a 15)])), (a 1, .inl (k 0, 12, .inl (nA (sP σ)))), (a 2, .inl (k 0, 12, .inl (nA (sR σ)))), (a 3, .inl (k 0, 12, .inl (nA (sC σ)))), (a 4, .inl (k 0, 12, .inl (nA (sV σ)))), (a 5, .inl (k 0, 12, .inl (nA (sD σ)))), (a 6, .inl (k 0, 10, .inl (nA (sKd σ)))), (a 7, .inl (k 0, 10, .inl (nA (sA σ)))), (a 8, .inl (k 0, 10, .inl (nA (sB σ)))), (a 9, .inl (k 1, 10, .inl (bA (sO σ)))), (a 10, .inl (k 1, 4096, .inl (bA pr91))), (a 11, .inl (k 1, 4096, .inl (bA ca91))), (a 12, .inl (k 0, 4096, .inl (nA cs91))), (a 13, .inl (k 0, 4096, .inl (nA vs91))), (a 14, .inl (k 0, 576, .inl (nA (mSp x)))), (a 15, .inl (k 1, 576, .inl (bA (mMi x))))] H → va_D A [(a 0, .inr (7, [.int (nI 0), .int (nI (sN σ)), .ref (a 1), .ref (a 2), .ref (a 3), .ref (a 4), .ref (a 5), .int (nI (sK σ)), .ref (a 6), .ref (a 7), .ref (a 8), .ref (a 9), .int (sU σ), .int (bI true), .ref (a 10), .ref (a 11), .ref (a 12), .ref (a 13), .int (bI (mSa x)), .int (nI (mPo x)), .int (nI (mSm x)), .ref (a 14), .ref (a 15)])), (a 1, .inl (k 0, 12, .inl (nA (sP σ)))), (a 2, .inl (k 0, 12, .inl (nA (sR σ)))), (a 3, .inl (k 0, 12, .inl (nA (sC σ)))), (a 4, .inl (k 0, 12, .inl (nA (sV σ)))), (a 5, .inl (k 0, 12, .inl (nA (sD σ)))), (a 6, .inl (k 0, 10, .inl (nA (sKd σ)))), (a 7, .inl (k 0, 10, .inl (nA (sA σ)))), (a 8, .inl (k 0, 10, .inl (nA (sB σ)))), (a 9, .inl (k 1, 10, .inl (bA (sO σ)))), (a 10, .inl (k 1, 4096, .inl (bA pr91))), (a 11, .inl (k 1, 4096, .inl (bA ca91))), (a 12, .inl (k 0, 4096, .inl (nA cs91))), (a 13, .inl (k 0, 4096, .inl (nA vs91))), (a 14, .inl (k 0, 576, .inl (nA (mSp x)))), (a 15, .inl (k 1, 576, .inl (bA (mMi x))))] → va_S A sX.heap H locs → ∀ ls : Array Slot, lv_has ls 4 [(0, .ref (a 0)), (1, .int b8), (2, .int (nI i))] → W pX l eX ({ frames := 4, cells := 0, slots := 0, locals := 91 } : Room) sX mX ([.ref (a 0)] : List Value).toArray bX meX cX H locs 0 0 (MQ bX (va_Qi (fun (rX : Int32) (u : (Mx)) => ∃ v : Int32, rX = v ∧ (0 = 0 → v = oI (r_bes σ)) ∧ MOK (σ) u ∧ mT u = 0) (Bm G k A (fun u : (Mx) => moW k a (σ) u)) A) ([.ref (a 0)] : List Value).toArray sX 0 0 A) (F0 mX 13 ls []) := by
    intro NN
    induction NN with
    | zero => intro b8 i hm9; exact absurd hm9 (Nat.not_lt_zero _)
    | succ NN ih13 =>
      intro b8 i hm9 hi ex H locs hP hD hS ls hl
      refine lv_iload_n hx hb dX7_best_13 rfl (lv_at hl 2 rfl) ?_
      refine n_iconst 1 (by decide) hx hb dX7_best_14 ?_
      refine lv_aload_n hx hb dX7_best_15 rfl (lv_at hl 0 rfl) ?_
      refine va_get (D := G) (ci := 7) (v := .int (nI (sN σ))) (C := RX7) (T := TX7) (N := 23) hx hb hts inX7 hown hK hP 0 rfl rfl 1 (by decide) lk1 (fun _ h9 => h9) rfl dX7_best_16 ?_
      refine n_ishl1 (by omega) hx hb dX7_best_19 ?_
      refine n_icmp_ge (tgt := 89) (by omega) (by omega) hx hb dX7_best_20 (by decide) (fun q20 => ?_) (fun q20 => ?_)
      · skip
        refine lv_iload_n hx hb dX7_best_89 rfl (lv_at hl 1 rfl) ?_
        exact e_mutI (u := (0, true, pr91, ca91, cs91, vs91, mSa x, mPo x, mSm x, mSp x, mMi x)) hx hb hr hlk hS hP hK hD (by refine ⟨_, rfl, fun _ => by rw [ex, show i = 2 ^ sN σ by omega]; rfl, by exact ⟨hwf, fun _ => hk1, hsa⟩, by rfl⟩) dX7_best_90
      · skip
        have hob : ∀ x, fstO (candB σ) (fun c b => decide (vsS σ b < vsS σ c) || (decide (vsS σ c = vsS σ b) && decide (csS σ c < csS σ b))) i = some x → x < 2147483648 := fun x h => by have := (fstO_lt h).1; omega
        have hci := csS_le hwf i
        have hvi := vsS_le hwf i
        refine lv_aload_n hx hb dX7_best_23 rfl (lv_at hl 0 rfl) ?_
        refine va_get (D := G) (ci := 7) (v := .ref (a 11)) (C := RX7) (T := TX7) (N := 23) hx hb hts inX7 hown hK hP 0 rfl rfl 15 (by decide) lk2 (fun _ h9 => h9) rfl dX7_best_24 ?_
        refine lv_iload_n hx hb dX7_best_27 rfl (lv_at hl 2 rfl) ?_
        refine b_bald hx hb hK hP 11 rfl (by omega) (by first | decide | omega) dX7_best_28 ?_
        refine b_if_ne (tgt := 35) hx hb dX7_best_29 (by decide) (fun q29 => ?_) (fun q29 => ?_)
        · skip
          have hc : candB σ i = true := by rw [← (hk1 i (by omega)).2.1]; exact q29
          refine lv_iload_n hx hb dX7_best_35 rfl (lv_at hl 1 rfl) ?_
          refine lv_iconst (v := -1) hx hb dX7_best_36 (by decide) ?_
          refine lv_icmp_ne (tgt := 44) hx hb dX7_best_37 (by decide) (fun q37 => ?_) (fun q37 => ?_)
          · skip
            obtain ⟨b9, hb9⟩ : ∃ b, fstO (candB σ) (fun c b => decide (vsS σ b < vsS σ c) || (decide (vsS σ c = vsS σ b) && decide (csS σ c < csS σ b))) i = some b := by cases h : fstO (candB σ) (fun c b => decide (vsS σ b < vsS σ c) || (decide (vsS σ c = vsS σ b) && decide (csS σ c < csS σ b))) i with | none => exact absurd (by rw [ex, h]; rfl) q37 | some b => exact ⟨b, rfl⟩
            obtain rfl : b8 = nI b9 := by rw [ex, hb9]; rfl
            have hbl := (fstO_lt hb9).1
            have hki := hk1 i (by omega)
            have hkb := hk1 b9 (by omega)
            have hcb := csS_le hwf b9
            have hvb := vsS_le hwf b9
            have e1 := hki.2.2.1
            have e2 := hkb.2.2.1
            have e3 := hki.2.2.2
            have e4 := hkb.2.2.2
            refine lv_aload_n hx hb dX7_best_44 rfl (lv_at hl 0 rfl) ?_
            refine va_get (D := G) (ci := 7) (v := .ref (a 13)) (C := RX7) (T := TX7) (N := 23) hx hb hts inX7 hown hK hP 0 rfl rfl 17 (by decide) lk3 (fun _ h9 => h9) rfl dX7_best_45 ?_
            refine lv_iload_n hx hb dX7_best_48 rfl (lv_at hl 2 rfl) ?_
            refine n_iald hx hb hK hP 13 rfl (by omega) (by first | decide | omega) dX7_best_49 ?_
            refine lv_aload_n hx hb dX7_best_50 rfl (lv_at hl 0 rfl) ?_
            refine va_get (D := G) (ci := 7) (v := .ref (a 13)) (C := RX7) (T := TX7) (N := 23) hx hb hts inX7 hown hK hP 0 rfl rfl 17 (by decide) lk3 (fun _ h9 => h9) rfl dX7_best_51 ?_
            refine lv_iload_n hx hb dX7_best_54 rfl (lv_at hl 1 rfl) ?_
            refine n_iald hx hb hK hP 13 rfl (by omega) (by first | decide | omega) dX7_best_55 ?_
            refine lv_isub hx hb dX7_best_56 ?_
            refine lv_istore_n (lv' := [(3, .int ((nI (vs91 i)) - (nI (vs91 b9)))), (0, .ref (a 0)), (1, .int (nI b9)), (2, .int (nI i))]) hx hb dX7_best_57 rfl hl (by decide) rfl (fun ls hl => ?_)
            refine lv_iload_n hx hb dX7_best_58 rfl (lv_at hl 0 rfl) ?_
            refine lv_if_gt (tgt := 81) hx hb dX7_best_59 (by decide) (fun q59 => ?_) (fun q59 => ?_)
            · skip
              have hq := fstO_better hc hb9 (bt := (fun c b => decide (vsS σ b < vsS σ c) || (decide (vsS σ c = vsS σ b) && decide (csS σ c < csS σ b)))) (by have h59 := (nI_subpos (by omega) (by omega)).mp q59; simp; omega)
              refine lv_iload_n hx hb dX7_best_81 rfl (lv_at hl 3 rfl) ?_
              refine lv_istore_n (lv' := [(1, .int (nI i)), (3, .int ((nI (vs91 i)) - (nI (vs91 b9)))), (0, .ref (a 0)), (2, .int (nI i))]) hx hb dX7_best_82 rfl hl (by decide) rfl (fun ls hl => ?_)
              refine n_iinc (lv' := [(2, .int (nI (i + 1))), (1, .int (nI i)), (3, .int ((nI (vs91 i)) - (nI (vs91 b9)))), (0, .ref (a 0))]) (k := 3) 1 hx hb dX7_best_83 hl rfl (by decide) (by decide) rfl (fun ls hl => ?_)
              refine lv_goto (tgt := 13) hx hb dX7_best_86 (by decide) ?_
              exact ih13 ((nI i)) (i + 1) (by omega) (by omega) (by first | (rw [hq]; exact ex) | (rw [hq]; rfl)) _ _ hP hD hS _ (lv_sub hl [3, 1, 0] rfl)
            · skip
              refine lv_iload_n hx hb dX7_best_62 rfl (lv_at hl 0 rfl) ?_
              refine lv_if_ne (tgt := 83) hx hb dX7_best_63 (by decide) (fun q63 => ?_) (fun q63 => ?_)
              · skip
                have h63 := mt (nI_subz (by omega) (by omega)).mpr q63
                have h59 := mt (nI_subpos (by omega) (by omega)).mpr q59
                have hq := fstO_keep hc hb9 (bt := (fun c b => decide (vsS σ b < vsS σ c) || (decide (vsS σ c = vsS σ b) && decide (csS σ c < csS σ b)))) (by simp; omega)
                refine n_iinc (lv' := [(2, .int (nI (i + 1))), (3, .int ((nI (vs91 i)) - (nI (vs91 b9)))), (0, .ref (a 0)), (1, .int (nI b9))]) (k := 3) 1 hx hb dX7_best_83 hl rfl (by decide) (by decide) rfl (fun ls hl => ?_)
                refine lv_goto (tgt := 13) hx hb dX7_best_86 (by decide) ?_
                exact ih13 ((nI b9)) (i + 1) (by omega) (by omega) (by first | (rw [hq]; exact ex) | (rw [hq]; rfl)) _ _ hP hD hS _ (lv_sub hl [2, 3, 0] rfl)
              · skip
                have h63 := (nI_subz (by omega) (by omega)).mp q63
                refine lv_aload_n hx hb dX7_best_66 rfl (lv_at hl 1 rfl) ?_
                refine va_get (D := G) (ci := 7) (v := .ref (a 12)) (C := RX7) (T := TX7) (N := 23) hx hb hts inX7 hown hK hP 0 rfl rfl 16 (by decide) lk4 (fun _ h9 => h9) rfl dX7_best_67 ?_
                refine lv_iload_n hx hb dX7_best_70 rfl (lv_at hl 3 rfl) ?_
                refine n_iald hx hb hK hP 12 rfl (by omega) (by first | decide | omega) dX7_best_71 ?_
                refine lv_aload_n hx hb dX7_best_72 rfl (lv_at hl 1 rfl) ?_
                refine va_get (D := G) (ci := 7) (v := .ref (a 12)) (C := RX7) (T := TX7) (N := 23) hx hb hts inX7 hown hK hP 0 rfl rfl 16 (by decide) lk4 (fun _ h9 => h9) rfl dX7_best_73 ?_
                refine lv_iload_n hx hb dX7_best_76 rfl (lv_at hl 2 rfl) ?_
                refine n_iald hx hb hK hP 12 rfl (by omega) (by first | decide | omega) dX7_best_77 ?_
                refine n_icmp_ge (tgt := 83) (by omega) (by omega) hx hb dX7_best_78 (by decide) (fun q78 => ?_) (fun q78 => ?_)
                · skip
                  have hq := fstO_keep hc hb9 (bt := (fun c b => decide (vsS σ b < vsS σ c) || (decide (vsS σ c = vsS σ b) && decide (csS σ c < csS σ b)))) (by simp; omega)
                  refine n_iinc (lv' := [(2, .int (nI (i + 1))), (3, .int ((nI (vs91 i)) - (nI (vs91 b9)))), (0, .ref (a 0)), (1, .int (nI b9))]) (k := 3) 1 hx hb dX7_best_83 hl rfl (by decide) (by decide) rfl (fun ls hl => ?_)
                  refine lv_goto (tgt := 13) hx hb dX7_best_86 (by decide) ?_
                  exact ih13 ((nI b9)) (i + 1) (by omega) (by omega) (by first | (rw [hq]; exact ex) | (rw [hq]; rfl)) _ _ hP hD hS _ (lv_sub hl [2, 3, 0] rfl)
                · skip
                  have hq := fstO_better hc hb9 (bt := (fun c b => decide (vsS σ b < vsS σ c) || (decide (vsS σ c = vsS σ b) && decide (csS σ c < csS σ b)))) (by simp; omega)
                  refine lv_iload_n hx hb dX7_best_81 rfl (lv_at hl 3 rfl) ?_
                  refine lv_istore_n (lv' := [(1, .int (nI i)), (3, .int ((nI (vs91 i)) - (nI (vs91 b9)))), (0, .ref (a 0)), (2, .int (nI i))]) hx hb dX7_best_82 rfl hl (by decide) rfl (fun ls hl => ?_)
                  refine n_iinc (lv' := [(2, .int (nI (i + 1))), (1, .int (nI i)), (3, .int ((nI (vs91 i)) - (nI (vs91 b9)))), (0, .ref (a 0))]) (k := 3) 1 hx hb dX7_best_83 hl rfl (by decide) (by decide) rfl (fun ls hl => ?_)
                  refine lv_goto (tgt := 13) hx hb dX7_best_86 (by decide) ?_
                  exact ih13 ((nI i)) (i + 1) (by omega) (by omega) (by first | (rw [hq]; exact ex) | (rw [hq]; rfl)) _ _ hP hD hS _ (lv_sub hl [3, 1, 0] rfl)
          · skip
            have hq := fstO_first (bt := (fun c b => decide (vsS σ b < vsS σ c) || (decide (vsS σ c = vsS σ b) && decide (csS σ c < csS σ b)))) hc ((oI_none hob).mp (ex.symm.trans q37))
            refine n_iconst 1 (by decide) hx hb dX7_best_40 ?_
            refine lv_goto (tgt := 57) hx hb dX7_best_41 (by decide) ?_
            refine lv_istore_n (lv' := [(3, .int (nI 1)), (0, .ref (a 0)), (1, .int b8), (2, .int (nI i))]) hx hb dX7_best_57 rfl hl (by decide) rfl (fun ls hl => ?_)
            refine lv_iload_n hx hb dX7_best_58 rfl (lv_at hl 0 rfl) ?_
            refine n_if_gt (tgt := 81) (by omega) hx hb dX7_best_59 (by decide) (fun q59 => ?_) (fun q59 => ?_)
            · skip
              refine lv_iload_n hx hb dX7_best_81 rfl (lv_at hl 3 rfl) ?_
              refine lv_istore_n (lv' := [(1, .int (nI i)), (3, .int (nI 1)), (0, .ref (a 0)), (2, .int (nI i))]) hx hb dX7_best_82 rfl hl (by decide) rfl (fun ls hl => ?_)
              refine n_iinc (lv' := [(2, .int (nI (i + 1))), (1, .int (nI i)), (3, .int (nI 1)), (0, .ref (a 0))]) (k := 3) 1 hx hb dX7_best_83 hl rfl (by decide) (by decide) rfl (fun ls hl => ?_)
              refine lv_goto (tgt := 13) hx hb dX7_best_86 (by decide) ?_
              exact ih13 ((nI i)) (i + 1) (by omega) (by omega) (by first | (rw [hq]; exact ex) | (rw [hq]; rfl)) _ _ hP hD hS _ (lv_sub hl [3, 1, 0] rfl)
            · skip
              exact absurd q59 (by decide)
        · skip
          have hc : candB σ i = false := by rw [← (hk1 i (by omega)).2.1]; exact q29
          have hq := fstO_no (bt := (fun c b => decide (vsS σ b < vsS σ c) || (decide (vsS σ c = vsS σ b) && decide (csS σ c < csS σ b)))) hc
          refine lv_goto (tgt := 83) hx hb dX7_best_32 (by decide) ?_
          refine n_iinc (lv' := [(2, .int (nI (i + 1))), (0, .ref (a 0)), (1, .int b8)]) (k := 2) 1 hx hb dX7_best_83 hl rfl (by decide) (by decide) rfl (fun ls hl => ?_)
          refine lv_goto (tgt := 13) hx hb dX7_best_86 (by decide) ?_
          exact ih13 (b8) (i + 1) (by omega) (by omega) (by first | (rw [hq]; exact ex) | (rw [hq]; rfl)) _ _ hP hD hS _ (lv_sub hl [1, 2, 0] rfl)
  exact L13 _ ((-1)) (0) (Nat.lt_succ_self _) (by omega) (by rfl) _ _ hP hD hS _ (lv_sub hl [2, 1, 0] rfl)
theorem hdV_X7_isInFront : yX7_isInFront.cls = RX7 ∧ yX7_isInFront.cls ≠ "java/lang/invoke/MethodHandle" ∧ yX7_isInFront.cls ≠ "java/lang/invoke/VarHandle" ∧ (parseMethodDescriptor yX7_isInFront.desc).map (fun d => d.parameters.length) = some 1 := by decide +kernel
set_option maxHeartbeats 4000000 in
set_option maxRecDepth 100000 in
theorem m_X7_frontSize (l : Launch) (G : va_G) (k : Nat → ClassId) (sz : Nat) (a : Nat → Nat) (σ : Sg) (x : Mx)  (hok : MOK σ x) : Met l yX7_frontSize wsX7_frontSize ({ frames := 4, cells := 0, slots := 0, locals := 91 } : Room) (va_Pc [.ref (a 0)] (Wm G k (moW k a σ x) sz)) (va_Qi (fun (rX : Int32) (u : (Mx)) => ∃ v : Int32, rX = v ∧ (0 = 0 → v = nI (cntF σ)) ∧ MOK (σ) u ∧ mT u = 0) (Bm G k (va_A (moW k a σ x) sz) (fun u : (Mx) => moW k a (σ) u)) (va_A (moW k a σ x) sz)) 0 0 (va_A (moW k a σ x) sz) := by
  refine met_mk (cc := cX7_frontSize) (maxL := 3) (ret := (some .int)) (by decide) rfl rfl ?_
  intro pX eX sX mX bX meX cX S hr hlk hnm hB ls hl
  obtain ⟨hsz, hP, hK, hN, hD0⟩ := hB
  subst hsz
  have hD := hD0.self (sz := sX.heap.size)
  generalize hAe : va_A (moW k a σ x) sX.heap.size = A at hD ⊢
  have hA : ∀ q : Nat, sX.heap.size ≤ q → A q := fun q h => by rw [← hAe]; exact Or.inr h
  have hS : va_S A sX.heap sX.heap [] := va_S.rf
  have hP : va_P G vwCl [(a 0, .inr (7, [.int (nI (mT x)), .int (nI (sN σ)), .ref (a 1), .ref (a 2), .ref (a 3), .ref (a 4), .ref (a 5), .int (nI (sK σ)), .ref (a 6), .ref (a 7), .ref (a 8), .ref (a 9), .int (sU σ), .int (bI (mKn x)), .ref (a 10), .ref (a 11), .ref (a 12), .ref (a 13), .int (bI (mSa x)), .int (nI (mPo x)), .int (nI (mSm x)), .ref (a 14), .ref (a 15)])), (a 1, .inl (k 0, 12, .inl (nA (sP σ)))), (a 2, .inl (k 0, 12, .inl (nA (sR σ)))), (a 3, .inl (k 0, 12, .inl (nA (sC σ)))), (a 4, .inl (k 0, 12, .inl (nA (sV σ)))), (a 5, .inl (k 0, 12, .inl (nA (sD σ)))), (a 6, .inl (k 0, 10, .inl (nA (sKd σ)))), (a 7, .inl (k 0, 10, .inl (nA (sA σ)))), (a 8, .inl (k 0, 10, .inl (nA (sB σ)))), (a 9, .inl (k 1, 10, .inl (bA (sO σ)))), (a 10, .inl (k 1, 4096, .inl (bA (mPr x)))), (a 11, .inl (k 1, 4096, .inl (bA (mCa x)))), (a 12, .inl (k 0, 4096, .inl (nA (mCs x)))), (a 13, .inl (k 0, 4096, .inl (nA (mVs x)))), (a 14, .inl (k 0, 576, .inl (nA (mSp x)))), (a 15, .inl (k 1, 576, .inl (bA (mMi x))))] sX.heap := hP
  have hD : va_D A [(a 0, .inr (7, [.int (nI (mT x)), .int (nI (sN σ)), .ref (a 1), .ref (a 2), .ref (a 3), .ref (a 4), .ref (a 5), .int (nI (sK σ)), .ref (a 6), .ref (a 7), .ref (a 8), .ref (a 9), .int (sU σ), .int (bI (mKn x)), .ref (a 10), .ref (a 11), .ref (a 12), .ref (a 13), .int (bI (mSa x)), .int (nI (mPo x)), .int (nI (mSm x)), .ref (a 14), .ref (a 15)])), (a 1, .inl (k 0, 12, .inl (nA (sP σ)))), (a 2, .inl (k 0, 12, .inl (nA (sR σ)))), (a 3, .inl (k 0, 12, .inl (nA (sC σ)))), (a 4, .inl (k 0, 12, .inl (nA (sV σ)))), (a 5, .inl (k 0, 12, .inl (nA (sD σ)))), (a 6, .inl (k 0, 10, .inl (nA (sKd σ)))), (a 7, .inl (k 0, 10, .inl (nA (sA σ)))), (a 8, .inl (k 0, 10, .inl (nA (sB σ)))), (a 9, .inl (k 1, 10, .inl (bA (sO σ)))), (a 10, .inl (k 1, 4096, .inl (bA (mPr x)))), (a 11, .inl (k 1, 4096, .inl (bA (mCa x)))), (a 12, .inl (k 0, 4096, .inl (nA (mCs x)))), (a 13, .inl (k 0, 4096, .inl (nA (mVs x)))), (a 14, .inl (k 0, 576, .inl (nA (mSp x)))), (a 15, .inl (k 1, 576, .inl (bA (mMi x))))] := hD
  obtain ⟨hx, hb, hml, hown, hts⟩ := id S
  have hown : sX.vm.findClass RX7 = some mX.cls := hown
  have hl : lv_has ls 3 [(0, .ref (a 0))] := hl
  have lk0 : (Cond.fieldLink RX7 63 "FeatureAnalyzerModel" "thrown" "I").before _ sX = true := hts _ (List.mem_cons_of_mem _ (List.mem_append_left _ (List.mem_append_left _ (List.mem_of_getElem? (i := 0) rfl))))
  have inX7 : ∀ w ∈ wsX70, w ∈ wsX7_frontSize := fun w h => List.mem_cons_of_mem _ (List.mem_append_right _ (h))
  have lk1 : (Cond.fieldLink RX7 9 "FeatureAnalyzerModel" "features" "I").before _ sX = true := hts _ (List.mem_cons_of_mem _ (List.mem_append_left _ (List.mem_append_left _ (List.mem_of_getElem? (i := 1) rfl))))
  obtain ⟨hwf, hkn, hsa⟩ := id hok
  obtain ⟨hn1, hn, hpl, hpa, hrl, hco, hva, hde, hde0, hkc, hkd, hfa, hfb⟩ := id hwf
  have hpn := pow12 hn
  have hp1 := Nat.one_le_two_pow (n := sN σ)
  refine lv_aload_n hx hb dX7_frontSize_0 rfl (lv_at hl 0 rfl) ?_
  refine n_iconst 0 (by decide) hx hb dX7_frontSize_1 ?_
  refine va_put (D := G) (ci := 7) (v := .int (nI 0)) (ty := .int) (C := RX7) (T := TX7) (N := 23) hx hb hts inX7 tyX7 tyX7_ok nmX7 hown hK hP hD hS 0 rfl rfl 0 (by decide) lk0 (fun _ h9 => h9) rfl rfl rfl rfl (Nat.le_of_ble_eq_true rfl) dX7_frontSize_2 (fun H locs hP hD hS => ?_)
  have hP : va_P G vwCl [(a 0, .inr (7, [.int (nI 0), .int (nI (sN σ)), .ref (a 1), .ref (a 2), .ref (a 3), .ref (a 4), .ref (a 5), .int (nI (sK σ)), .ref (a 6), .ref (a 7), .ref (a 8), .ref (a 9), .int (sU σ), .int (bI (mKn x)), .ref (a 10), .ref (a 11), .ref (a 12), .ref (a 13), .int (bI (mSa x)), .int (nI (mPo x)), .int (nI (mSm x)), .ref (a 14), .ref (a 15)])), (a 1, .inl (k 0, 12, .inl (nA (sP σ)))), (a 2, .inl (k 0, 12, .inl (nA (sR σ)))), (a 3, .inl (k 0, 12, .inl (nA (sC σ)))), (a 4, .inl (k 0, 12, .inl (nA (sV σ)))), (a 5, .inl (k 0, 12, .inl (nA (sD σ)))), (a 6, .inl (k 0, 10, .inl (nA (sKd σ)))), (a 7, .inl (k 0, 10, .inl (nA (sA σ)))), (a 8, .inl (k 0, 10, .inl (nA (sB σ)))), (a 9, .inl (k 1, 10, .inl (bA (sO σ)))), (a 10, .inl (k 1, 4096, .inl (bA (mPr x)))), (a 11, .inl (k 1, 4096, .inl (bA (mCa x)))), (a 12, .inl (k 0, 4096, .inl (nA (mCs x)))), (a 13, .inl (k 0, 4096, .inl (nA (mVs x)))), (a 14, .inl (k 0, 576, .inl (nA (mSp x)))), (a 15, .inl (k 1, 576, .inl (bA (mMi x))))] H := hP
  have hD : va_D A [(a 0, .inr (7, [.int (nI 0), .int (nI (sN σ)), .ref (a 1), .ref (a 2), .ref (a 3), .ref (a 4), .ref (a 5), .int (nI (sK σ)), .ref (a 6), .ref (a 7), .ref (a 8), .ref (a 9), .int (sU σ), .int (bI (mKn x)), .ref (a 10), .ref (a 11), .ref (a 12), .ref (a 13), .int (bI (mSa x)), .int (nI (mPo x)), .int (nI (mSm x)), .ref (a 14), .ref (a 15)])), (a 1, .inl (k 0, 12, .inl (nA (sP σ)))), (a 2, .inl (k 0, 12, .inl (nA (sR σ)))), (a 3, .inl (k 0, 12, .inl (nA (sC σ)))), (a 4, .inl (k 0, 12, .inl (nA (sV σ)))), (a 5, .inl (k 0, 12, .inl (nA (sD σ)))), (a 6, .inl (k 0, 10, .inl (nA (sKd σ)))), (a 7, .inl (k 0, 10, .inl (nA (sA σ)))), (a 8, .inl (k 0, 10, .inl (nA (sB σ)))), (a 9, .inl (k 1, 10, .inl (bA (sO σ)))), (a 10, .inl (k 1, 4096, .inl (bA (mPr x)))), (a 11, .inl (k 1, 4096, .inl (bA (mCa x)))), (a 12, .inl (k 0, 4096, .inl (nA (mCs x)))), (a 13, .inl (k 0, 4096, .inl (nA (mVs x)))), (a 14, .inl (k 0, 576, .inl (nA (mSp x)))), (a 15, .inl (k 1, 576, .inl (bA (mMi x))))] := hD
  refine lv_aload_n hx hb dX7_frontSize_5 rfl (lv_at hl 0 rfl) ?_
  refine cV_mv (As := []) (wn := fun u : (Nat → Bool) × (Nat → Bool) × (Nat → Nat) × (Nat → Nat) => [(a 0, .inr (7, [.int (nI 0), .int (nI (sN σ)), .ref (a 1), .ref (a 2), .ref (a 3), .ref (a 4), .ref (a 5), .int (nI (sK σ)), .ref (a 6), .ref (a 7), .ref (a 8), .ref (a 9), .int (sU σ), .int (bI true), .ref (a 10), .ref (a 11), .ref (a 12), .ref (a 13), .int (bI (mSa x)), .int (nI (mPo x)), .int (nI (mSm x)), .ref (a 14), .ref (a 15)])), (a 1, .inl (k 0, 12, .inl (nA (sP σ)))), (a 2, .inl (k 0, 12, .inl (nA (sR σ)))), (a 3, .inl (k 0, 12, .inl (nA (sC σ)))), (a 4, .inl (k 0, 12, .inl (nA (sV σ)))), (a 5, .inl (k 0, 12, .inl (nA (sD σ)))), (a 6, .inl (k 0, 10, .inl (nA (sKd σ)))), (a 7, .inl (k 0, 10, .inl (nA (sA σ)))), (a 8, .inl (k 0, 10, .inl (nA (sB σ)))), (a 9, .inl (k 1, 10, .inl (bA (sO σ)))), (a 10, .inl (k 1, 4096, .inl (bA u.1))), (a 11, .inl (k 1, 4096, .inl (bA u.2.1))), (a 12, .inl (k 0, 4096, .inl (nA u.2.2.1))), (a 13, .inl (k 0, 4096, .inl (nA u.2.2.2))), (a 14, .inl (k 0, 576, .inl (nA (mSp x)))), (a 15, .inl (k 1, 576, .inl (bA (mMi x))))]) S hP hK hN hD hS hA (m_X7_know l G k _ a σ _ _ _ _ _ _ _ _ _ _ _ (by assumption) (by assumption)) gX7_frontSize_X7_know rfl rfl rfl hdV_X7_know rfl rfl [0, 1, 2, 3, 4, 5, 6, 7, 8, 9, 10, 11, 12, 13, 14, 15] [] [0, 1, 2, 3, 4, 5, 6, 7, 8, 9, 10, 11, 12, 13, 14, 15] rfl rfl rfl rfl rfl (by decide) (fun _ => rfl) (fun _ => rfl) rfl 7 0 rfl rfl rfl rfl hl.1 rfl rfl ⟨Nat.le_of_ble_eq_true rfl, Nat.le_of_ble_eq_true rfl⟩ dX7_frontSize_6 (fun u H locs hw1 hP hD hS => ?_)
  obtain ⟨pr91, ca91, cs91, vs91⟩ := u
  try dsimp only at hw1
  have hk1 := hw1
  have hP : va_P G vwCl [(a 0, .inr (7, [.int (nI 0), .int (nI (sN σ)), .ref (a 1), .ref (a 2), .ref (a 3), .ref (a 4), .ref (a 5), .int (nI (sK σ)), .ref (a 6), .ref (a 7), .ref (a 8), .ref (a 9), .int (sU σ), .int (bI true), .ref (a 10), .ref (a 11), .ref (a 12), .ref (a 13), .int (bI (mSa x)), .int (nI (mPo x)), .int (nI (mSm x)), .ref (a 14), .ref (a 15)])), (a 1, .inl (k 0, 12, .inl (nA (sP σ)))), (a 2, .inl (k 0, 12, .inl (nA (sR σ)))), (a 3, .inl (k 0, 12, .inl (nA (sC σ)))), (a 4, .inl (k 0, 12, .inl (nA (sV σ)))), (a 5, .inl (k 0, 12, .inl (nA (sD σ)))), (a 6, .inl (k 0, 10, .inl (nA (sKd σ)))), (a 7, .inl (k 0, 10, .inl (nA (sA σ)))), (a 8, .inl (k 0, 10, .inl (nA (sB σ)))), (a 9, .inl (k 1, 10, .inl (bA (sO σ)))), (a 10, .inl (k 1, 4096, .inl (bA pr91))), (a 11, .inl (k 1, 4096, .inl (bA ca91))), (a 12, .inl (k 0, 4096, .inl (nA cs91))), (a 13, .inl (k 0, 4096, .inl (nA vs91))), (a 14, .inl (k 0, 576, .inl (nA (mSp x)))), (a 15, .inl (k 1, 576, .inl (bA (mMi x))))] H := hP
  have hD : va_D A [(a 0, .inr (7, [.int (nI 0), .int (nI (sN σ)), .ref (a 1), .ref (a 2), .ref (a 3), .ref (a 4), .ref (a 5), .int (nI (sK σ)), .ref (a 6), .ref (a 7), .ref (a 8), .ref (a 9), .int (sU σ), .int (bI true), .ref (a 10), .ref (a 11), .ref (a 12), .ref (a 13), .int (bI (mSa x)), .int (nI (mPo x)), .int (nI (mSm x)), .ref (a 14), .ref (a 15)])), (a 1, .inl (k 0, 12, .inl (nA (sP σ)))), (a 2, .inl (k 0, 12, .inl (nA (sR σ)))), (a 3, .inl (k 0, 12, .inl (nA (sC σ)))), (a 4, .inl (k 0, 12, .inl (nA (sV σ)))), (a 5, .inl (k 0, 12, .inl (nA (sD σ)))), (a 6, .inl (k 0, 10, .inl (nA (sKd σ)))), (a 7, .inl (k 0, 10, .inl (nA (sA σ)))), (a 8, .inl (k 0, 10, .inl (nA (sB σ)))), (a 9, .inl (k 1, 10, .inl (bA (sO σ)))), (a 10, .inl (k 1, 4096, .inl (bA pr91))), (a 11, .inl (k 1, 4096, .inl (bA ca91))), (a 12, .inl (k 0, 4096, .inl (nA cs91))), (a 13, .inl (k 0, 4096, .inl (nA vs91))), (a 14, .inl (k 0, 576, .inl (nA (mSp x)))), (a 15, .inl (k 1, 576, .inl (bA (mMi x))))] := hD
  refine n_iconst 0 (by decide) hx hb dX7_frontSize_9 ?_
  refine lv_istore_n (lv' := [(1, .int (nI 0)), (0, .ref (a 0))]) hx hb dX7_frontSize_10 rfl hl (by decide) rfl (fun ls hl => ?_)
  refine n_iconst 0 (by decide) hx hb dX7_frontSize_11 ?_
  refine lv_istore_n (lv' := [(2, .int (nI 0)), (1, .int (nI 0)), (0, .ref (a 0))]) hx hb dX7_frontSize_12 rfl hl (by decide) rfl (fun ls hl => ?_)
  have L13 : ∀ (NN : Nat) (v9 : Nat) (i : Nat), (2 ^ sN σ - i) < NN → (i ≤ 2 ^ sN σ) → (v9 = fb_ct (frtS σ) i) → ∀ (H : Heap) (locs : List Loc), va_P G vwCl [(a 0, .inr (7, [.int (nI 0), .int (nI (sN σ)), .ref (a 1), .ref (a 2), .ref (a 3), .ref (a 4), .ref (a 5), .int (nI (sK σ)), .ref (a 6), .ref (a 7), .ref (a 8), .ref (a 9), .int (sU σ), .int (bI true), .ref (a 10), .ref (a 11), .ref (a 12), .ref (a 13), .int (bI (mSa x)), .int (nI (mPo x)), .int (nI (mSm x)), .ref (a 14), .ref (a 15)])), (a 1, .inl (k 0, 12, .inl (nA (sP σ)))), (a 2, .inl (k 0, 12, .inl (nA (sR σ)))), (a 3, .inl (k 0, 12, .inl (nA (sC σ)))), (a 4, .inl (k 0, 12, .inl (nA (sV σ)))), (a 5, .inl (k 0, 12, .inl (nA (sD σ)))), (a 6, .inl (k 0, 10, .inl (nA (sKd σ)))), (a 7, .inl (k 0, 10, .inl (nA (sA σ)))), (a 8, .inl (k 0, 10, .inl (nA (sB σ)))), (a 9, .inl (k 1, 10, .inl (bA (sO σ)))), (a 10, .inl (k 1, 4096, .inl (bA pr91))), (a 11, .inl (k 1, 4096, .inl (bA ca91))), (a 12, .inl (k 0, 4096, .inl (nA cs91))), (a 13, .inl (k 0, 4096, .inl (nA vs91))), (a 14, .inl (k 0, 576, .inl (nA (mSp x)))), (a 15, .inl (k 1, 576, .inl (bA (mMi x))))] H → va_D A [(a 0, .inr (7, [.int (nI 0), .int (nI (sN σ)), .ref (a 1), .ref (a 2), .ref (a 3), .ref (a 4), .ref (a 5), .int (nI (sK σ)), .ref (a 6), .ref (a 7), .ref (a 8), .ref (a 9), .int (sU σ), .int (bI true), .ref (a 10), .ref (a 11), .ref (a 12), .ref (a 13), .int (bI (mSa x)), .int (nI (mPo x)), .int (nI (mSm x)), .ref (a 14), .ref (a 15)])), (a 1, .inl (k 0, 12, .inl (nA (sP σ)))), (a 2, .inl (k 0, 12, .inl (nA (sR σ)))), (a 3, .inl (k 0, 12, .inl (nA (sC σ)))), (a 4, .inl (k 0, 12, .inl (nA (sV σ)))), (a 5, .inl (k 0, 12, .inl (nA (sD σ)))), (a 6, .inl (k 0, 10, .inl (nA (sKd σ)))), (a 7, .inl (k 0, 10, .inl (nA (sA σ)))), (a 8, .inl (k 0, 10, .inl (nA (sB σ)))), (a 9, .inl (k 1, 10, .inl (bA (sO σ)))), (a 10, .inl (k 1, 4096, .inl (bA pr91))), (a 11, .inl (k 1, 4096, .inl (bA ca91))), (a 12, .inl (k 0, 4096, .inl (nA cs91))), (a 13, .inl (k 0, 4096, .inl (nA vs91))), (a 14, .inl (k 0, 576, .inl (nA (mSp x)))), (a 15, .inl (k 1, 576, .inl (bA (mMi x))))] → va_S A sX.heap H locs → ∀ ls : Array Slot, lv_has ls 3 [(0, .ref (a 0)), (1, .int (nI v9)), (2, .int (nI i))] → W pX l eX ({ frames := 4, cells := 0, slots := 0, locals := 91 } : Room) sX mX ([.ref (a 0)] : List Value).toArray bX meX cX H locs 0 0 (MQ bX (va_Qi (fun (rX : Int32) (u : (Mx)) => ∃ v : Int32, rX = v ∧ (0 = 0 → v = nI (cntF σ)) ∧ MOK (σ) u ∧ mT u = 0) (Bm G k A (fun u : (Mx) => moW k a (σ) u)) A) ([.ref (a 0)] : List Value).toArray sX 0 0 A) (F0 mX 13 ls []) := by
    intro NN
    induction NN with
    | zero => intro v9 i hm9; exact absurd hm9 (Nat.not_lt_zero _)
    | succ NN ih13 =>
      intro v9 i hm9 hi ev H locs hP hD hS ls hl
      refine lv_iload_n hx hb dX7_frontSize_13 rfl (lv_at hl 2 rfl) ?_
      refine n_iconst 1 (by decide) hx hb dX7_frontSize_14 ?_
      refine lv_aload_n hx hb dX7_frontSize_15 rfl (lv_at hl 0 rfl) ?_
      refine va_get (D := G) (ci := 7) (v := .int (nI (sN σ))) (C := RX7) (T := TX7) (N := 23) hx hb hts inX7 hown hK hP 0 rfl rfl 1 (by decide) lk1 (fun _ h9 => h9) rfl dX7_frontSize_16 ?_
      refine n_ishl1 (by omega) hx hb dX7_frontSize_19 ?_
      refine n_icmp_ge (tgt := 45) (by omega) (by omega) hx hb dX7_frontSize_20 (by decide) (fun q20 => ?_) (fun q20 => ?_)
      · skip
        refine lv_iload_n hx hb dX7_frontSize_45 rfl (lv_at hl 1 rfl) ?_
        exact e_mutI (u := (0, true, pr91, ca91, cs91, vs91, mSa x, mPo x, mSm x, mSp x, mMi x)) hx hb hr hlk hS hP hK hD (by refine ⟨_, rfl, fun _ => by rw [ev, show i = 2 ^ sN σ by omega]; rfl, by exact ⟨hwf, fun _ => hk1, hsa⟩, by rfl⟩) dX7_frontSize_46
      · skip
        refine lv_iload_n hx hb dX7_frontSize_23 rfl (lv_at hl 1 rfl) ?_
        refine lv_aload_n hx hb dX7_frontSize_24 rfl (lv_at hl 0 rfl) ?_
        refine lv_iload_n hx hb dX7_frontSize_25 rfl (lv_at hl 2 rfl) ?_
        refine cV_i (As := [.int (nI i)]) S hP hK hN (m_X7_isInFront l G k _ _ _ _ _ _ _ _ _ _ _ _ _ _ _ _ _ _ _ _ _ _ _ _ _ _ _ _ (by omega) (by omega) (by exact kn_cs hk1 hwf) (by exact kn_vs hk1 hwf)) gX7_frontSize_X7_isInFront rfl rfl rfl hdV_X7_isInFront rfl rfl [0, 11, 12, 13] rfl 7 0 rfl rfl rfl rfl hl.1 rfl rfl ⟨Nat.le_of_ble_eq_true rfl, Nat.le_of_ble_eq_true rfl⟩ dX7_frontSize_26 (fun rX hr2 => ?_)
        subst hr2
        refine b_if_eq (tgt := 36) hx hb dX7_frontSize_29 (by decide) (fun q29 => ?_) (fun q29 => ?_)
        · skip
          refine n_iconst 0 (by decide) hx hb dX7_frontSize_36 ?_
          refine n_iadd hx hb dX7_frontSize_37 ?_
          refine lv_istore_n (lv' := [(1, .int (nI (v9 + 0))), (0, .ref (a 0)), (2, .int (nI i))]) hx hb dX7_frontSize_38 rfl hl (by decide) rfl (fun ls hl => ?_)
          refine n_iinc (lv' := [(2, .int (nI (i + 1))), (1, .int (nI (v9 + 0))), (0, .ref (a 0))]) (k := 2) 1 hx hb dX7_frontSize_39 hl rfl (by decide) (by decide) rfl (fun ls hl => ?_)
          refine lv_goto (tgt := 13) hx hb dX7_frontSize_42 (by decide) ?_
          exact ih13 (v9 + 0) (i + 1) (by omega) (by omega) (by rw [fb_ct_succ, ev, ← kn_fr hk1 (show i < 2 ^ sN σ by omega), q29]; rfl) _ _ hP hD hS _ (lv_sub hl [2, 1, 0] rfl)
        · skip
          refine n_iconst 1 (by decide) hx hb dX7_frontSize_32 ?_
          refine lv_goto (tgt := 37) hx hb dX7_frontSize_33 (by decide) ?_
          refine n_iadd hx hb dX7_frontSize_37 ?_
          refine lv_istore_n (lv' := [(1, .int (nI (v9 + 1))), (0, .ref (a 0)), (2, .int (nI i))]) hx hb dX7_frontSize_38 rfl hl (by decide) rfl (fun ls hl => ?_)
          refine n_iinc (lv' := [(2, .int (nI (i + 1))), (1, .int (nI (v9 + 1))), (0, .ref (a 0))]) (k := 2) 1 hx hb dX7_frontSize_39 hl rfl (by decide) (by decide) rfl (fun ls hl => ?_)
          refine lv_goto (tgt := 13) hx hb dX7_frontSize_42 (by decide) ?_
          exact ih13 (v9 + 1) (i + 1) (by omega) (by omega) (by rw [fb_ct_succ, ev, ← kn_fr hk1 (show i < 2 ^ sN σ by omega), q29]; rfl) _ _ hP hD hS _ (lv_sub hl [2, 1, 0] rfl)
  exact L13 _ (0) (0) (Nat.lt_succ_self _) (by omega) (by rfl) _ _ hP hD hS _ (lv_sub hl [2, 1, 0] rfl)
set_option maxHeartbeats 4000000 in
set_option maxRecDepth 100000 in
theorem m_X7_front (l : Launch) (G : va_G) (k : Nat → ClassId) (sz : Nat) (a : Nat → Nat) (σ : Sg) (x : Mx) (x9 : Int32) (hok : MOK σ x) : Met l yX7_front wsX7_front ({ frames := 4, cells := 0, slots := 0, locals := 91 } : Room) (va_Pc [.ref (a 0), .int x9] (Wm G k (moW k a σ x) sz)) (va_Qi (fun (rX : Int32) (u : (Mx)) => ∃ v : Int32, rX = v ∧ (e_if (isF x9 (cntF σ)) = 0 → v = nI (nthN (frtS σ) (tn x9) (M2 σ))) ∧ MOK (σ) u ∧ mT u = e_if (isF x9 (cntF σ))) (Bm G k (va_A (moW k a σ x) sz) (fun u : (Mx) => moW k a (σ) u)) (va_A (moW k a σ x) sz)) 0 0 (va_A (moW k a σ x) sz) := by
  refine met_mk (cc := cX7_front) (maxL := 4) (ret := (some .int)) (by decide) rfl rfl ?_
  intro pX eX sX mX bX meX cX S hr hlk hnm hB ls hl
  obtain ⟨hsz, hP, hK, hN, hD0⟩ := hB
  subst hsz
  have hD := hD0.self (sz := sX.heap.size)
  generalize hAe : va_A (moW k a σ x) sX.heap.size = A at hD ⊢
  have hA : ∀ q : Nat, sX.heap.size ≤ q → A q := fun q h => by rw [← hAe]; exact Or.inr h
  have hS : va_S A sX.heap sX.heap [] := va_S.rf
  have hP : va_P G vwCl [(a 0, .inr (7, [.int (nI (mT x)), .int (nI (sN σ)), .ref (a 1), .ref (a 2), .ref (a 3), .ref (a 4), .ref (a 5), .int (nI (sK σ)), .ref (a 6), .ref (a 7), .ref (a 8), .ref (a 9), .int (sU σ), .int (bI (mKn x)), .ref (a 10), .ref (a 11), .ref (a 12), .ref (a 13), .int (bI (mSa x)), .int (nI (mPo x)), .int (nI (mSm x)), .ref (a 14), .ref (a 15)])), (a 1, .inl (k 0, 12, .inl (nA (sP σ)))), (a 2, .inl (k 0, 12, .inl (nA (sR σ)))), (a 3, .inl (k 0, 12, .inl (nA (sC σ)))), (a 4, .inl (k 0, 12, .inl (nA (sV σ)))), (a 5, .inl (k 0, 12, .inl (nA (sD σ)))), (a 6, .inl (k 0, 10, .inl (nA (sKd σ)))), (a 7, .inl (k 0, 10, .inl (nA (sA σ)))), (a 8, .inl (k 0, 10, .inl (nA (sB σ)))), (a 9, .inl (k 1, 10, .inl (bA (sO σ)))), (a 10, .inl (k 1, 4096, .inl (bA (mPr x)))), (a 11, .inl (k 1, 4096, .inl (bA (mCa x)))), (a 12, .inl (k 0, 4096, .inl (nA (mCs x)))), (a 13, .inl (k 0, 4096, .inl (nA (mVs x)))), (a 14, .inl (k 0, 576, .inl (nA (mSp x)))), (a 15, .inl (k 1, 576, .inl (bA (mMi x))))] sX.heap := hP
  have hD : va_D A [(a 0, .inr (7, [.int (nI (mT x)), .int (nI (sN σ)), .ref (a 1), .ref (a 2), .ref (a 3), .ref (a 4), .ref (a 5), .int (nI (sK σ)), .ref (a 6), .ref (a 7), .ref (a 8), .ref (a 9), .int (sU σ), .int (bI (mKn x)), .ref (a 10), .ref (a 11), .ref (a 12), .ref (a 13), .int (bI (mSa x)), .int (nI (mPo x)), .int (nI (mSm x)), .ref (a 14), .ref (a 15)])), (a 1, .inl (k 0, 12, .inl (nA (sP σ)))), (a 2, .inl (k 0, 12, .inl (nA (sR σ)))), (a 3, .inl (k 0, 12, .inl (nA (sC σ)))), (a 4, .inl (k 0, 12, .inl (nA (sV σ)))), (a 5, .inl (k 0, 12, .inl (nA (sD σ)))), (a 6, .inl (k 0, 10, .inl (nA (sKd σ)))), (a 7, .inl (k 0, 10, .inl (nA (sA σ)))), (a 8, .inl (k 0, 10, .inl (nA (sB σ)))), (a 9, .inl (k 1, 10, .inl (bA (sO σ)))), (a 10, .inl (k 1, 4096, .inl (bA (mPr x)))), (a 11, .inl (k 1, 4096, .inl (bA (mCa x)))), (a 12, .inl (k 0, 4096, .inl (nA (mCs x)))), (a 13, .inl (k 0, 4096, .inl (nA (mVs x)))), (a 14, .inl (k 0, 576, .inl (nA (mSp x)))), (a 15, .inl (k 1, 576, .inl (bA (mMi x))))] := hD
  obtain ⟨hx, hb, hml, hown, hts⟩ := id S
  have hown : sX.vm.findClass RX7 = some mX.cls := hown
  have hl : lv_has ls 4 [(0, .ref (a 0)), (1, .int x9)] := hl
  have lk0 : (Cond.fieldLink RX7 63 "FeatureAnalyzerModel" "thrown" "I").before _ sX = true := hts _ (List.mem_cons_of_mem _ (List.mem_append_left _ (List.mem_append_left _ (List.mem_of_getElem? (i := 0) rfl))))
  have inX7 : ∀ w ∈ wsX70, w ∈ wsX7_front := fun w h => List.mem_cons_of_mem _ (List.mem_append_right _ (h))
  have lk1 : (Cond.fieldLink RX7 9 "FeatureAnalyzerModel" "features" "I").before _ sX = true := hts _ (List.mem_cons_of_mem _ (List.mem_append_left _ (List.mem_append_left _ (List.mem_of_getElem? (i := 1) rfl))))
  obtain ⟨hwf, hkn, hsa⟩ := id hok
  obtain ⟨hn1, hn, hpl, hpa, hrl, hco, hva, hde, hde0, hkc, hkd, hfa, hfb⟩ := id hwf
  have hpn := pow12 hn
  have hp1 := Nat.one_le_two_pow (n := sN σ)
  have hfl : cntF σ ≤ 4096 := Nat.le_trans (fb_ct_le _ _) hpn
  refine lv_aload_n hx hb dX7_front_0 rfl (lv_at hl 0 rfl) ?_
  refine n_iconst 0 (by decide) hx hb dX7_front_1 ?_
  refine va_put (D := G) (ci := 7) (v := .int (nI 0)) (ty := .int) (C := RX7) (T := TX7) (N := 23) hx hb hts inX7 tyX7 tyX7_ok nmX7 hown hK hP hD hS 0 rfl rfl 0 (by decide) lk0 (fun _ h9 => h9) rfl rfl rfl rfl (Nat.le_of_ble_eq_true rfl) dX7_front_2 (fun H locs hP hD hS => ?_)
  have hP : va_P G vwCl [(a 0, .inr (7, [.int (nI 0), .int (nI (sN σ)), .ref (a 1), .ref (a 2), .ref (a 3), .ref (a 4), .ref (a 5), .int (nI (sK σ)), .ref (a 6), .ref (a 7), .ref (a 8), .ref (a 9), .int (sU σ), .int (bI (mKn x)), .ref (a 10), .ref (a 11), .ref (a 12), .ref (a 13), .int (bI (mSa x)), .int (nI (mPo x)), .int (nI (mSm x)), .ref (a 14), .ref (a 15)])), (a 1, .inl (k 0, 12, .inl (nA (sP σ)))), (a 2, .inl (k 0, 12, .inl (nA (sR σ)))), (a 3, .inl (k 0, 12, .inl (nA (sC σ)))), (a 4, .inl (k 0, 12, .inl (nA (sV σ)))), (a 5, .inl (k 0, 12, .inl (nA (sD σ)))), (a 6, .inl (k 0, 10, .inl (nA (sKd σ)))), (a 7, .inl (k 0, 10, .inl (nA (sA σ)))), (a 8, .inl (k 0, 10, .inl (nA (sB σ)))), (a 9, .inl (k 1, 10, .inl (bA (sO σ)))), (a 10, .inl (k 1, 4096, .inl (bA (mPr x)))), (a 11, .inl (k 1, 4096, .inl (bA (mCa x)))), (a 12, .inl (k 0, 4096, .inl (nA (mCs x)))), (a 13, .inl (k 0, 4096, .inl (nA (mVs x)))), (a 14, .inl (k 0, 576, .inl (nA (mSp x)))), (a 15, .inl (k 1, 576, .inl (bA (mMi x))))] H := hP
  have hD : va_D A [(a 0, .inr (7, [.int (nI 0), .int (nI (sN σ)), .ref (a 1), .ref (a 2), .ref (a 3), .ref (a 4), .ref (a 5), .int (nI (sK σ)), .ref (a 6), .ref (a 7), .ref (a 8), .ref (a 9), .int (sU σ), .int (bI (mKn x)), .ref (a 10), .ref (a 11), .ref (a 12), .ref (a 13), .int (bI (mSa x)), .int (nI (mPo x)), .int (nI (mSm x)), .ref (a 14), .ref (a 15)])), (a 1, .inl (k 0, 12, .inl (nA (sP σ)))), (a 2, .inl (k 0, 12, .inl (nA (sR σ)))), (a 3, .inl (k 0, 12, .inl (nA (sC σ)))), (a 4, .inl (k 0, 12, .inl (nA (sV σ)))), (a 5, .inl (k 0, 12, .inl (nA (sD σ)))), (a 6, .inl (k 0, 10, .inl (nA (sKd σ)))), (a 7, .inl (k 0, 10, .inl (nA (sA σ)))), (a 8, .inl (k 0, 10, .inl (nA (sB σ)))), (a 9, .inl (k 1, 10, .inl (bA (sO σ)))), (a 10, .inl (k 1, 4096, .inl (bA (mPr x)))), (a 11, .inl (k 1, 4096, .inl (bA (mCa x)))), (a 12, .inl (k 0, 4096, .inl (nA (mCs x)))), (a 13, .inl (k 0, 4096, .inl (nA (mVs x)))), (a 14, .inl (k 0, 576, .inl (nA (mSp x)))), (a 15, .inl (k 1, 576, .inl (bA (mMi x))))] := hD
  refine lv_aload_n hx hb dX7_front_5 rfl (lv_at hl 0 rfl) ?_
  refine cV_mv (As := []) (wn := fun u : (Nat → Bool) × (Nat → Bool) × (Nat → Nat) × (Nat → Nat) => [(a 0, .inr (7, [.int (nI 0), .int (nI (sN σ)), .ref (a 1), .ref (a 2), .ref (a 3), .ref (a 4), .ref (a 5), .int (nI (sK σ)), .ref (a 6), .ref (a 7), .ref (a 8), .ref (a 9), .int (sU σ), .int (bI true), .ref (a 10), .ref (a 11), .ref (a 12), .ref (a 13), .int (bI (mSa x)), .int (nI (mPo x)), .int (nI (mSm x)), .ref (a 14), .ref (a 15)])), (a 1, .inl (k 0, 12, .inl (nA (sP σ)))), (a 2, .inl (k 0, 12, .inl (nA (sR σ)))), (a 3, .inl (k 0, 12, .inl (nA (sC σ)))), (a 4, .inl (k 0, 12, .inl (nA (sV σ)))), (a 5, .inl (k 0, 12, .inl (nA (sD σ)))), (a 6, .inl (k 0, 10, .inl (nA (sKd σ)))), (a 7, .inl (k 0, 10, .inl (nA (sA σ)))), (a 8, .inl (k 0, 10, .inl (nA (sB σ)))), (a 9, .inl (k 1, 10, .inl (bA (sO σ)))), (a 10, .inl (k 1, 4096, .inl (bA u.1))), (a 11, .inl (k 1, 4096, .inl (bA u.2.1))), (a 12, .inl (k 0, 4096, .inl (nA u.2.2.1))), (a 13, .inl (k 0, 4096, .inl (nA u.2.2.2))), (a 14, .inl (k 0, 576, .inl (nA (mSp x)))), (a 15, .inl (k 1, 576, .inl (bA (mMi x))))]) S hP hK hN hD hS hA (m_X7_know l G k _ a σ _ _ _ _ _ _ _ _ _ _ _ (by assumption) (by assumption)) gX7_front_X7_know rfl rfl rfl hdV_X7_know rfl rfl [0, 1, 2, 3, 4, 5, 6, 7, 8, 9, 10, 11, 12, 13, 14, 15] [] [0, 1, 2, 3, 4, 5, 6, 7, 8, 9, 10, 11, 12, 13, 14, 15] rfl rfl rfl rfl rfl (by decide) (fun _ => rfl) (fun _ => rfl) rfl 7 0 rfl rfl rfl rfl hl.1 rfl rfl ⟨Nat.le_of_ble_eq_true rfl, Nat.le_of_ble_eq_true rfl⟩ dX7_front_6 (fun u H locs hw1 hP hD hS => ?_)
  obtain ⟨pr91, ca91, cs91, vs91⟩ := u
  try dsimp only at hw1
  have hk1 := hw1
  have hP : va_P G vwCl [(a 0, .inr (7, [.int (nI 0), .int (nI (sN σ)), .ref (a 1), .ref (a 2), .ref (a 3), .ref (a 4), .ref (a 5), .int (nI (sK σ)), .ref (a 6), .ref (a 7), .ref (a 8), .ref (a 9), .int (sU σ), .int (bI true), .ref (a 10), .ref (a 11), .ref (a 12), .ref (a 13), .int (bI (mSa x)), .int (nI (mPo x)), .int (nI (mSm x)), .ref (a 14), .ref (a 15)])), (a 1, .inl (k 0, 12, .inl (nA (sP σ)))), (a 2, .inl (k 0, 12, .inl (nA (sR σ)))), (a 3, .inl (k 0, 12, .inl (nA (sC σ)))), (a 4, .inl (k 0, 12, .inl (nA (sV σ)))), (a 5, .inl (k 0, 12, .inl (nA (sD σ)))), (a 6, .inl (k 0, 10, .inl (nA (sKd σ)))), (a 7, .inl (k 0, 10, .inl (nA (sA σ)))), (a 8, .inl (k 0, 10, .inl (nA (sB σ)))), (a 9, .inl (k 1, 10, .inl (bA (sO σ)))), (a 10, .inl (k 1, 4096, .inl (bA pr91))), (a 11, .inl (k 1, 4096, .inl (bA ca91))), (a 12, .inl (k 0, 4096, .inl (nA cs91))), (a 13, .inl (k 0, 4096, .inl (nA vs91))), (a 14, .inl (k 0, 576, .inl (nA (mSp x)))), (a 15, .inl (k 1, 576, .inl (bA (mMi x))))] H := hP
  have hD : va_D A [(a 0, .inr (7, [.int (nI 0), .int (nI (sN σ)), .ref (a 1), .ref (a 2), .ref (a 3), .ref (a 4), .ref (a 5), .int (nI (sK σ)), .ref (a 6), .ref (a 7), .ref (a 8), .ref (a 9), .int (sU σ), .int (bI true), .ref (a 10), .ref (a 11), .ref (a 12), .ref (a 13), .int (bI (mSa x)), .int (nI (mPo x)), .int (nI (mSm x)), .ref (a 14), .ref (a 15)])), (a 1, .inl (k 0, 12, .inl (nA (sP σ)))), (a 2, .inl (k 0, 12, .inl (nA (sR σ)))), (a 3, .inl (k 0, 12, .inl (nA (sC σ)))), (a 4, .inl (k 0, 12, .inl (nA (sV σ)))), (a 5, .inl (k 0, 12, .inl (nA (sD σ)))), (a 6, .inl (k 0, 10, .inl (nA (sKd σ)))), (a 7, .inl (k 0, 10, .inl (nA (sA σ)))), (a 8, .inl (k 0, 10, .inl (nA (sB σ)))), (a 9, .inl (k 1, 10, .inl (bA (sO σ)))), (a 10, .inl (k 1, 4096, .inl (bA pr91))), (a 11, .inl (k 1, 4096, .inl (bA ca91))), (a 12, .inl (k 0, 4096, .inl (nA cs91))), (a 13, .inl (k 0, 4096, .inl (nA vs91))), (a 14, .inl (k 0, 576, .inl (nA (mSp x)))), (a 15, .inl (k 1, 576, .inl (bA (mMi x))))] := hD
  refine lv_iload_n hx hb dX7_front_9 rfl (lv_at hl 1 rfl) ?_
  refine lv_istore_n (lv' := [(2, .int x9), (0, .ref (a 0)), (1, .int x9)]) hx hb dX7_front_10 rfl hl (by decide) rfl (fun ls hl => ?_)
  refine n_iconst 0 (by decide) hx hb dX7_front_11 ?_
  refine lv_istore_n (lv' := [(3, .int (nI 0)), (2, .int x9), (0, .ref (a 0)), (1, .int x9)]) hx hb dX7_front_12 rfl hl (by decide) rfl (fun ls hl => ?_)
  have L13 : ∀ (NN : Nat) (lf : Int32) (c : Nat), (2 ^ sN σ - c) < NN → (c ≤ 2 ^ sN σ) → (lf = x9 - nI (fb_ct (frtS σ) c)) → (∀ j, j < 2147483648 → x9 = nI j → fb_ct (frtS σ) c ≤ j) → (x9 < 0 → c = 0) → ∀ (H : Heap) (locs : List Loc), va_P G vwCl [(a 0, .inr (7, [.int (nI 0), .int (nI (sN σ)), .ref (a 1), .ref (a 2), .ref (a 3), .ref (a 4), .ref (a 5), .int (nI (sK σ)), .ref (a 6), .ref (a 7), .ref (a 8), .ref (a 9), .int (sU σ), .int (bI true), .ref (a 10), .ref (a 11), .ref (a 12), .ref (a 13), .int (bI (mSa x)), .int (nI (mPo x)), .int (nI (mSm x)), .ref (a 14), .ref (a 15)])), (a 1, .inl (k 0, 12, .inl (nA (sP σ)))), (a 2, .inl (k 0, 12, .inl (nA (sR σ)))), (a 3, .inl (k 0, 12, .inl (nA (sC σ)))), (a 4, .inl (k 0, 12, .inl (nA (sV σ)))), (a 5, .inl (k 0, 12, .inl (nA (sD σ)))), (a 6, .inl (k 0, 10, .inl (nA (sKd σ)))), (a 7, .inl (k 0, 10, .inl (nA (sA σ)))), (a 8, .inl (k 0, 10, .inl (nA (sB σ)))), (a 9, .inl (k 1, 10, .inl (bA (sO σ)))), (a 10, .inl (k 1, 4096, .inl (bA pr91))), (a 11, .inl (k 1, 4096, .inl (bA ca91))), (a 12, .inl (k 0, 4096, .inl (nA cs91))), (a 13, .inl (k 0, 4096, .inl (nA vs91))), (a 14, .inl (k 0, 576, .inl (nA (mSp x)))), (a 15, .inl (k 1, 576, .inl (bA (mMi x))))] H → va_D A [(a 0, .inr (7, [.int (nI 0), .int (nI (sN σ)), .ref (a 1), .ref (a 2), .ref (a 3), .ref (a 4), .ref (a 5), .int (nI (sK σ)), .ref (a 6), .ref (a 7), .ref (a 8), .ref (a 9), .int (sU σ), .int (bI true), .ref (a 10), .ref (a 11), .ref (a 12), .ref (a 13), .int (bI (mSa x)), .int (nI (mPo x)), .int (nI (mSm x)), .ref (a 14), .ref (a 15)])), (a 1, .inl (k 0, 12, .inl (nA (sP σ)))), (a 2, .inl (k 0, 12, .inl (nA (sR σ)))), (a 3, .inl (k 0, 12, .inl (nA (sC σ)))), (a 4, .inl (k 0, 12, .inl (nA (sV σ)))), (a 5, .inl (k 0, 12, .inl (nA (sD σ)))), (a 6, .inl (k 0, 10, .inl (nA (sKd σ)))), (a 7, .inl (k 0, 10, .inl (nA (sA σ)))), (a 8, .inl (k 0, 10, .inl (nA (sB σ)))), (a 9, .inl (k 1, 10, .inl (bA (sO σ)))), (a 10, .inl (k 1, 4096, .inl (bA pr91))), (a 11, .inl (k 1, 4096, .inl (bA ca91))), (a 12, .inl (k 0, 4096, .inl (nA cs91))), (a 13, .inl (k 0, 4096, .inl (nA vs91))), (a 14, .inl (k 0, 576, .inl (nA (mSp x)))), (a 15, .inl (k 1, 576, .inl (bA (mMi x))))] → va_S A sX.heap H locs → ∀ ls : Array Slot, lv_has ls 4 [(0, .ref (a 0)), (1, .int x9), (2, .int lf), (3, .int (nI c))] → W pX l eX ({ frames := 4, cells := 0, slots := 0, locals := 91 } : Room) sX mX ([.ref (a 0), .int x9] : List Value).toArray bX meX cX H locs 0 0 (MQ bX (va_Qi (fun (rX : Int32) (u : (Mx)) => ∃ v : Int32, rX = v ∧ (e_if (isF x9 (cntF σ)) = 0 → v = nI (nthN (frtS σ) (tn x9) (M2 σ))) ∧ MOK (σ) u ∧ mT u = e_if (isF x9 (cntF σ))) (Bm G k A (fun u : (Mx) => moW k a (σ) u)) A) ([.ref (a 0), .int x9] : List Value).toArray sX 0 0 A) (F0 mX 13 ls []) := by
    intro NN
    induction NN with
    | zero => intro lf c hm9; exact absurd hm9 (Nat.not_lt_zero _)
    | succ NN ih13 =>
      intro lf c hm9 hc el hj hz H locs hP hD hS ls hl
      refine lv_iload_n hx hb dX7_front_13 rfl (lv_at hl 3 rfl) ?_
      refine n_iconst 1 (by decide) hx hb dX7_front_14 ?_
      refine lv_aload_n hx hb dX7_front_15 rfl (lv_at hl 0 rfl) ?_
      refine va_get (D := G) (ci := 7) (v := .int (nI (sN σ))) (C := RX7) (T := TX7) (N := 23) hx hb hts inX7 hown hK hP 0 rfl rfl 1 (by decide) lk1 (fun _ h9 => h9) rfl dX7_front_16 ?_
      refine n_ishl1 (by omega) hx hb dX7_front_19 ?_
      refine n_icmp_ge (tgt := 55) (by omega) (by omega) hx hb dX7_front_20 (by decide) (fun q20 => ?_) (fun q20 => ?_)
      · skip
        have hF : isF x9 (cntF σ) = false := front_end hfl (show c = M2 σ by show c = 2 ^ sN σ; omega) hj
        refine lv_aload_n hx hb dX7_front_55 rfl (lv_at hl 0 rfl) ?_
        refine n_iconst 1 (by decide) hx hb dX7_front_56 ?_
        refine cV_mi (As := [.int (nI 1)]) (wn := fun u : Unit => [(a 0, .inr (7, [.int (nI 1), .int (nI (sN σ)), .ref (a 1), .ref (a 2), .ref (a 3), .ref (a 4), .ref (a 5), .int (nI (sK σ)), .ref (a 6), .ref (a 7), .ref (a 8), .ref (a 9), .int (sU σ), .int (bI true), .ref (a 10), .ref (a 11), .ref (a 12), .ref (a 13), .int (bI (mSa x)), .int (nI (mPo x)), .int (nI (mSm x)), .ref (a 14), .ref (a 15)])), (a 1, .inl (k 0, 12, .inl (nA (sP σ)))), (a 2, .inl (k 0, 12, .inl (nA (sR σ)))), (a 3, .inl (k 0, 12, .inl (nA (sC σ)))), (a 4, .inl (k 0, 12, .inl (nA (sV σ)))), (a 5, .inl (k 0, 12, .inl (nA (sD σ)))), (a 6, .inl (k 0, 10, .inl (nA (sKd σ)))), (a 7, .inl (k 0, 10, .inl (nA (sA σ)))), (a 8, .inl (k 0, 10, .inl (nA (sB σ)))), (a 9, .inl (k 1, 10, .inl (bA (sO σ)))), (a 10, .inl (k 1, 4096, .inl (bA pr91))), (a 11, .inl (k 1, 4096, .inl (bA ca91))), (a 12, .inl (k 0, 4096, .inl (nA cs91))), (a 13, .inl (k 0, 4096, .inl (nA vs91))), (a 14, .inl (k 0, 576, .inl (nA (mSp x)))), (a 15, .inl (k 1, 576, .inl (bA (mMi x))))]) S hP hK hN hD hS hA (m_X7_fail l G k _ _ _ _ _ _ _ _ _ _ _ _ _ _ _ _ _ _ _ _ _ _ _ _ _ _) gX7_front_X7_fail rfl rfl rfl hdV_X7_fail rfl rfl [0] [1, 2, 3, 4, 5, 6, 7, 8, 9, 10, 11, 12, 13, 14, 15] [15, 0, 1, 2, 3, 4, 5, 6, 7, 8, 9, 10, 11, 12, 13, 14] rfl rfl rfl rfl rfl (by decide) (fun _ => rfl) (fun _ => rfl) rfl 7 0 rfl rfl rfl rfl hl.1 rfl rfl ⟨Nat.le_of_ble_eq_true rfl, Nat.le_of_ble_eq_true rfl⟩ dX7_front_57 (fun rX u H locs hw2 hP hD hS => ?_)
        obtain rfl := hw2
        have hP : va_P G vwCl [(a 0, .inr (7, [.int (nI 1), .int (nI (sN σ)), .ref (a 1), .ref (a 2), .ref (a 3), .ref (a 4), .ref (a 5), .int (nI (sK σ)), .ref (a 6), .ref (a 7), .ref (a 8), .ref (a 9), .int (sU σ), .int (bI true), .ref (a 10), .ref (a 11), .ref (a 12), .ref (a 13), .int (bI (mSa x)), .int (nI (mPo x)), .int (nI (mSm x)), .ref (a 14), .ref (a 15)])), (a 1, .inl (k 0, 12, .inl (nA (sP σ)))), (a 2, .inl (k 0, 12, .inl (nA (sR σ)))), (a 3, .inl (k 0, 12, .inl (nA (sC σ)))), (a 4, .inl (k 0, 12, .inl (nA (sV σ)))), (a 5, .inl (k 0, 12, .inl (nA (sD σ)))), (a 6, .inl (k 0, 10, .inl (nA (sKd σ)))), (a 7, .inl (k 0, 10, .inl (nA (sA σ)))), (a 8, .inl (k 0, 10, .inl (nA (sB σ)))), (a 9, .inl (k 1, 10, .inl (bA (sO σ)))), (a 10, .inl (k 1, 4096, .inl (bA pr91))), (a 11, .inl (k 1, 4096, .inl (bA ca91))), (a 12, .inl (k 0, 4096, .inl (nA cs91))), (a 13, .inl (k 0, 4096, .inl (nA vs91))), (a 14, .inl (k 0, 576, .inl (nA (mSp x)))), (a 15, .inl (k 1, 576, .inl (bA (mMi x))))] H := hP
        have hD : va_D A [(a 0, .inr (7, [.int (nI 1), .int (nI (sN σ)), .ref (a 1), .ref (a 2), .ref (a 3), .ref (a 4), .ref (a 5), .int (nI (sK σ)), .ref (a 6), .ref (a 7), .ref (a 8), .ref (a 9), .int (sU σ), .int (bI true), .ref (a 10), .ref (a 11), .ref (a 12), .ref (a 13), .int (bI (mSa x)), .int (nI (mPo x)), .int (nI (mSm x)), .ref (a 14), .ref (a 15)])), (a 1, .inl (k 0, 12, .inl (nA (sP σ)))), (a 2, .inl (k 0, 12, .inl (nA (sR σ)))), (a 3, .inl (k 0, 12, .inl (nA (sC σ)))), (a 4, .inl (k 0, 12, .inl (nA (sV σ)))), (a 5, .inl (k 0, 12, .inl (nA (sD σ)))), (a 6, .inl (k 0, 10, .inl (nA (sKd σ)))), (a 7, .inl (k 0, 10, .inl (nA (sA σ)))), (a 8, .inl (k 0, 10, .inl (nA (sB σ)))), (a 9, .inl (k 1, 10, .inl (bA (sO σ)))), (a 10, .inl (k 1, 4096, .inl (bA pr91))), (a 11, .inl (k 1, 4096, .inl (bA ca91))), (a 12, .inl (k 0, 4096, .inl (nA cs91))), (a 13, .inl (k 0, 4096, .inl (nA vs91))), (a 14, .inl (k 0, 576, .inl (nA (mSp x)))), (a 15, .inl (k 1, 576, .inl (bA (mMi x))))] := hD
        exact e_mutI (u := (1, true, pr91, ca91, cs91, vs91, mSa x, mPo x, mSm x, mSp x, mMi x)) hx hb hr hlk hS hP hK hD (by exact ⟨_, rfl, fun z => absurd (hF.symm.trans (isF_of_e z)) (by decide), ⟨hwf, fun _ => hk1, hsa⟩, (by rw [hF]; rfl)⟩) dX7_front_60
      · skip
        have hct := fb_ct_le (frtS σ) c
        refine lv_iload_n hx hb dX7_front_23 rfl (lv_at hl 2 rfl) ?_
        refine lv_if_lt (tgt := 55) hx hb dX7_front_24 (by decide) (fun q24 => ?_) (fun q24 => ?_)
        · skip
          have hF : isF x9 (cntF σ) = false := isF_neg (front_neg hfl el hj q24)
          refine lv_aload_n hx hb dX7_front_55 rfl (lv_at hl 0 rfl) ?_
          refine n_iconst 1 (by decide) hx hb dX7_front_56 ?_
          refine cV_mi (As := [.int (nI 1)]) (wn := fun u : Unit => [(a 0, .inr (7, [.int (nI 1), .int (nI (sN σ)), .ref (a 1), .ref (a 2), .ref (a 3), .ref (a 4), .ref (a 5), .int (nI (sK σ)), .ref (a 6), .ref (a 7), .ref (a 8), .ref (a 9), .int (sU σ), .int (bI true), .ref (a 10), .ref (a 11), .ref (a 12), .ref (a 13), .int (bI (mSa x)), .int (nI (mPo x)), .int (nI (mSm x)), .ref (a 14), .ref (a 15)])), (a 1, .inl (k 0, 12, .inl (nA (sP σ)))), (a 2, .inl (k 0, 12, .inl (nA (sR σ)))), (a 3, .inl (k 0, 12, .inl (nA (sC σ)))), (a 4, .inl (k 0, 12, .inl (nA (sV σ)))), (a 5, .inl (k 0, 12, .inl (nA (sD σ)))), (a 6, .inl (k 0, 10, .inl (nA (sKd σ)))), (a 7, .inl (k 0, 10, .inl (nA (sA σ)))), (a 8, .inl (k 0, 10, .inl (nA (sB σ)))), (a 9, .inl (k 1, 10, .inl (bA (sO σ)))), (a 10, .inl (k 1, 4096, .inl (bA pr91))), (a 11, .inl (k 1, 4096, .inl (bA ca91))), (a 12, .inl (k 0, 4096, .inl (nA cs91))), (a 13, .inl (k 0, 4096, .inl (nA vs91))), (a 14, .inl (k 0, 576, .inl (nA (mSp x)))), (a 15, .inl (k 1, 576, .inl (bA (mMi x))))]) S hP hK hN hD hS hA (m_X7_fail l G k _ _ _ _ _ _ _ _ _ _ _ _ _ _ _ _ _ _ _ _ _ _ _ _ _ _) gX7_front_X7_fail rfl rfl rfl hdV_X7_fail rfl rfl [0] [1, 2, 3, 4, 5, 6, 7, 8, 9, 10, 11, 12, 13, 14, 15] [15, 0, 1, 2, 3, 4, 5, 6, 7, 8, 9, 10, 11, 12, 13, 14] rfl rfl rfl rfl rfl (by decide) (fun _ => rfl) (fun _ => rfl) rfl 7 0 rfl rfl rfl rfl hl.1 rfl rfl ⟨Nat.le_of_ble_eq_true rfl, Nat.le_of_ble_eq_true rfl⟩ dX7_front_57 (fun rX u H locs hw3 hP hD hS => ?_)
          obtain rfl := hw3
          have hP : va_P G vwCl [(a 0, .inr (7, [.int (nI 1), .int (nI (sN σ)), .ref (a 1), .ref (a 2), .ref (a 3), .ref (a 4), .ref (a 5), .int (nI (sK σ)), .ref (a 6), .ref (a 7), .ref (a 8), .ref (a 9), .int (sU σ), .int (bI true), .ref (a 10), .ref (a 11), .ref (a 12), .ref (a 13), .int (bI (mSa x)), .int (nI (mPo x)), .int (nI (mSm x)), .ref (a 14), .ref (a 15)])), (a 1, .inl (k 0, 12, .inl (nA (sP σ)))), (a 2, .inl (k 0, 12, .inl (nA (sR σ)))), (a 3, .inl (k 0, 12, .inl (nA (sC σ)))), (a 4, .inl (k 0, 12, .inl (nA (sV σ)))), (a 5, .inl (k 0, 12, .inl (nA (sD σ)))), (a 6, .inl (k 0, 10, .inl (nA (sKd σ)))), (a 7, .inl (k 0, 10, .inl (nA (sA σ)))), (a 8, .inl (k 0, 10, .inl (nA (sB σ)))), (a 9, .inl (k 1, 10, .inl (bA (sO σ)))), (a 10, .inl (k 1, 4096, .inl (bA pr91))), (a 11, .inl (k 1, 4096, .inl (bA ca91))), (a 12, .inl (k 0, 4096, .inl (nA cs91))), (a 13, .inl (k 0, 4096, .inl (nA vs91))), (a 14, .inl (k 0, 576, .inl (nA (mSp x)))), (a 15, .inl (k 1, 576, .inl (bA (mMi x))))] H := hP
          have hD : va_D A [(a 0, .inr (7, [.int (nI 1), .int (nI (sN σ)), .ref (a 1), .ref (a 2), .ref (a 3), .ref (a 4), .ref (a 5), .int (nI (sK σ)), .ref (a 6), .ref (a 7), .ref (a 8), .ref (a 9), .int (sU σ), .int (bI true), .ref (a 10), .ref (a 11), .ref (a 12), .ref (a 13), .int (bI (mSa x)), .int (nI (mPo x)), .int (nI (mSm x)), .ref (a 14), .ref (a 15)])), (a 1, .inl (k 0, 12, .inl (nA (sP σ)))), (a 2, .inl (k 0, 12, .inl (nA (sR σ)))), (a 3, .inl (k 0, 12, .inl (nA (sC σ)))), (a 4, .inl (k 0, 12, .inl (nA (sV σ)))), (a 5, .inl (k 0, 12, .inl (nA (sD σ)))), (a 6, .inl (k 0, 10, .inl (nA (sKd σ)))), (a 7, .inl (k 0, 10, .inl (nA (sA σ)))), (a 8, .inl (k 0, 10, .inl (nA (sB σ)))), (a 9, .inl (k 1, 10, .inl (bA (sO σ)))), (a 10, .inl (k 1, 4096, .inl (bA pr91))), (a 11, .inl (k 1, 4096, .inl (bA ca91))), (a 12, .inl (k 0, 4096, .inl (nA cs91))), (a 13, .inl (k 0, 4096, .inl (nA vs91))), (a 14, .inl (k 0, 576, .inl (nA (mSp x)))), (a 15, .inl (k 1, 576, .inl (bA (mMi x))))] := hD
          exact e_mutI (u := (1, true, pr91, ca91, cs91, vs91, mSa x, mPo x, mSm x, mSp x, mMi x)) hx hb hr hlk hS hP hK hD (by exact ⟨_, rfl, fun z => absurd (hF.symm.trans (isF_of_e z)) (by decide), ⟨hwf, fun _ => hk1, hsa⟩, (by rw [hF]; rfl)⟩) dX7_front_60
        · skip
          obtain ⟨j9, hj9, ej⟩ := front_pos el hz q24
          have hle := hj j9 hj9 ej
          refine lv_iload_n hx hb dX7_front_27 rfl (lv_at hl 2 rfl) ?_
          refine lv_aload_n hx hb dX7_front_28 rfl (lv_at hl 0 rfl) ?_
          refine lv_iload_n hx hb dX7_front_29 rfl (lv_at hl 3 rfl) ?_
          refine cV_i (As := [.int (nI c)]) S hP hK hN (m_X7_isInFront l G k _ _ _ _ _ _ _ _ _ _ _ _ _ _ _ _ _ _ _ _ _ _ _ _ _ _ _ _ (by omega) (by omega) (by exact kn_cs hk1 hwf) (by exact kn_vs hk1 hwf)) gX7_front_X7_isInFront rfl rfl rfl hdV_X7_isInFront rfl rfl [0, 11, 12, 13] rfl 7 0 rfl rfl rfl rfl hl.1 rfl rfl ⟨Nat.le_of_ble_eq_true rfl, Nat.le_of_ble_eq_true rfl⟩ dX7_front_30 (fun rX hr4 => ?_)
          subst hr4
          have hfr := kn_fr hk1 (show c < 2 ^ sN σ by omega)
          refine b_if_eq (tgt := 40) hx hb dX7_front_33 (by decide) (fun q33 => ?_) (fun q33 => ?_)
          · skip
            have q33' : frtS σ c = false := hfr.symm.trans q33
            refine n_iconst 0 (by decide) hx hb dX7_front_40 ?_
            refine lv_isub hx hb dX7_front_41 ?_
            refine lv_istore_n (lv' := [(2, .int (lf - (nI 0))), (0, .ref (a 0)), (1, .int x9), (3, .int (nI c))]) hx hb dX7_front_42 rfl hl (by decide) rfl (fun ls hl => ?_)
            refine lv_iload_n hx hb dX7_front_43 rfl (lv_at hl 0 rfl) ?_
            refine lv_if_ge (tgt := 49) hx hb dX7_front_44 (by decide) (fun q44 => ?_) (fun q44 => ?_)
            · skip
              have hj2 : ∀ j, j < 2147483648 → x9 = nI j → fb_ct (frtS σ) (c + 1) ≤ j := by first | exact front_next0 hj q33' | exact front_next el ej hj9 hle q33' q44
              refine n_iinc (lv' := [(3, .int (nI (c + 1))), (2, .int (lf - (nI 0))), (0, .ref (a 0)), (1, .int x9)]) (k := 3) 1 hx hb dX7_front_49 hl rfl (by decide) (by decide) rfl (fun ls hl => ?_)
              refine lv_goto (tgt := 13) hx hb dX7_front_52 (by decide) ?_
              exact ih13 ((lf - (nI 0))) (c + 1) (by omega) (by omega) (by first | (rw [fb_ct_succ, q33', if_neg (by decide), Nat.add_zero, ← el]; exact sub_zero' lf) | (rw [fb_ct_succ, q33', if_pos rfl, el]; exact sub_oneN _ _)) (by exact hj2) (by exact fun z => absurd z (by rw [ej]; exact nI_pos hj9)) _ _ hP hD hS _ (lv_sub hl [2, 3, 1, 0] rfl)
            · skip
              have htr : frtS σ c = true := by first | exact q33' | exact (front_hit0 el ej hle hj9 q44).elim
              have heq : j9 = fb_ct (frtS σ) c := by first | exact front_hit el ej hj9 hle q44 | exact (front_hit0 el ej hle hj9 q44).elim
              have hlt := fb_ct_lt htr (show c < 2 ^ sN σ by omega)
              have hF : isF x9 (cntF σ) = true := by rw [ej, isF_nI (Nat.lt_of_le_of_lt hfl (by decide)) hj9]; exact decide_eq_true (by rw [heq]; exact hlt)
              refine lv_iload_n hx hb dX7_front_47 rfl (lv_at hl 3 rfl) ?_
              exact e_mutI (u := (0, true, pr91, ca91, cs91, vs91, mSa x, mPo x, mSm x, mSp x, mMi x)) hx hb hr hlk hS hP hK hD (by exact ⟨_, rfl, fun _ => (by rw [ej, tn_nI hj9]; exact congrArg nI (nthN_eq htr heq.symm (show c < M2 σ by show c < 2 ^ sN σ; omega)).symm), ⟨hwf, fun _ => hk1, hsa⟩, (by rw [hF]; rfl)⟩) dX7_front_48
          · skip
            have q33' : frtS σ c = true := hfr.symm.trans q33
            refine n_iconst 1 (by decide) hx hb dX7_front_36 ?_
            refine lv_goto (tgt := 41) hx hb dX7_front_37 (by decide) ?_
            refine lv_isub hx hb dX7_front_41 ?_
            refine lv_istore_n (lv' := [(2, .int (lf - (nI 1))), (0, .ref (a 0)), (1, .int x9), (3, .int (nI c))]) hx hb dX7_front_42 rfl hl (by decide) rfl (fun ls hl => ?_)
            refine lv_iload_n hx hb dX7_front_43 rfl (lv_at hl 0 rfl) ?_
            refine lv_if_ge (tgt := 49) hx hb dX7_front_44 (by decide) (fun q44 => ?_) (fun q44 => ?_)
            · skip
              have hj2 : ∀ j, j < 2147483648 → x9 = nI j → fb_ct (frtS σ) (c + 1) ≤ j := by first | exact front_next0 hj q33' | exact front_next el ej hj9 hle q33' q44
              refine n_iinc (lv' := [(3, .int (nI (c + 1))), (2, .int (lf - (nI 1))), (0, .ref (a 0)), (1, .int x9)]) (k := 3) 1 hx hb dX7_front_49 hl rfl (by decide) (by decide) rfl (fun ls hl => ?_)
              refine lv_goto (tgt := 13) hx hb dX7_front_52 (by decide) ?_
              exact ih13 ((lf - (nI 1))) (c + 1) (by omega) (by omega) (by first | (rw [fb_ct_succ, q33', if_neg (by decide), Nat.add_zero, ← el]; exact sub_zero' lf) | (rw [fb_ct_succ, q33', if_pos rfl, el]; exact sub_oneN _ _)) (by exact hj2) (by exact fun z => absurd z (by rw [ej]; exact nI_pos hj9)) _ _ hP hD hS _ (lv_sub hl [2, 3, 1, 0] rfl)
            · skip
              have htr : frtS σ c = true := by first | exact q33' | exact (front_hit0 el ej hle hj9 q44).elim
              have heq : j9 = fb_ct (frtS σ) c := by first | exact front_hit el ej hj9 hle q44 | exact (front_hit0 el ej hle hj9 q44).elim
              have hlt := fb_ct_lt htr (show c < 2 ^ sN σ by omega)
              have hF : isF x9 (cntF σ) = true := by rw [ej, isF_nI (Nat.lt_of_le_of_lt hfl (by decide)) hj9]; exact decide_eq_true (by rw [heq]; exact hlt)
              refine lv_iload_n hx hb dX7_front_47 rfl (lv_at hl 3 rfl) ?_
              exact e_mutI (u := (0, true, pr91, ca91, cs91, vs91, mSa x, mPo x, mSm x, mSp x, mMi x)) hx hb hr hlk hS hP hK hD (by exact ⟨_, rfl, fun _ => (by rw [ej, tn_nI hj9]; exact congrArg nI (nthN_eq htr heq.symm (show c < M2 σ by show c < 2 ^ sN σ; omega)).symm), ⟨hwf, fun _ => hk1, hsa⟩, (by rw [hF]; rfl)⟩) dX7_front_48
  exact L13 _ (x9) (0) (Nat.lt_succ_self _) (by omega) (by exact (sub_zero' x9).symm) (by exact fun j _ _ => Nat.zero_le j) (by exact fun _ => rfl) _ _ hP hD hS _ (lv_sub hl [2, 3, 1, 0] rfl)
set_option maxHeartbeats 4000000 in
set_option maxRecDepth 100000 in
theorem m_X7_nearest (l : Launch) (G : va_G) (k : Nat → ClassId) (sz : Nat) (a : Nat → Nat) (σ : Sg) (x : Mx) (x9 : Int32) (hok : MOK σ x) : Met l yX7_nearest wsX7_nearest ({ frames := 4, cells := 0, slots := 0, locals := 91 } : Room) (va_Pc [.ref (a 0), .int x9] (Wm G k (moW k a σ x) sz)) (va_Qi (fun (rX : Int32) (u : (Mx)) => ∃ v : Int32, rX = v ∧ (e_cfg σ x9 = 0 → v = oI (r_nea σ (tn x9))) ∧ MOK (σ) u ∧ mT u = e_cfg σ x9) (Bm G k (va_A (moW k a σ x) sz) (fun u : (Mx) => moW k a (σ) u)) (va_A (moW k a σ x) sz)) 0 0 (va_A (moW k a σ x) sz) := by
  refine met_mk (cc := cX7_nearest) (maxL := 4) (ret := (some .int)) (by decide) rfl rfl ?_
  intro pX eX sX mX bX meX cX S hr hlk hnm hB ls hl
  obtain ⟨hsz, hP, hK, hN, hD0⟩ := hB
  subst hsz
  have hD := hD0.self (sz := sX.heap.size)
  generalize hAe : va_A (moW k a σ x) sX.heap.size = A at hD ⊢
  have hA : ∀ q : Nat, sX.heap.size ≤ q → A q := fun q h => by rw [← hAe]; exact Or.inr h
  have hS : va_S A sX.heap sX.heap [] := va_S.rf
  have hP : va_P G vwCl [(a 0, .inr (7, [.int (nI (mT x)), .int (nI (sN σ)), .ref (a 1), .ref (a 2), .ref (a 3), .ref (a 4), .ref (a 5), .int (nI (sK σ)), .ref (a 6), .ref (a 7), .ref (a 8), .ref (a 9), .int (sU σ), .int (bI (mKn x)), .ref (a 10), .ref (a 11), .ref (a 12), .ref (a 13), .int (bI (mSa x)), .int (nI (mPo x)), .int (nI (mSm x)), .ref (a 14), .ref (a 15)])), (a 1, .inl (k 0, 12, .inl (nA (sP σ)))), (a 2, .inl (k 0, 12, .inl (nA (sR σ)))), (a 3, .inl (k 0, 12, .inl (nA (sC σ)))), (a 4, .inl (k 0, 12, .inl (nA (sV σ)))), (a 5, .inl (k 0, 12, .inl (nA (sD σ)))), (a 6, .inl (k 0, 10, .inl (nA (sKd σ)))), (a 7, .inl (k 0, 10, .inl (nA (sA σ)))), (a 8, .inl (k 0, 10, .inl (nA (sB σ)))), (a 9, .inl (k 1, 10, .inl (bA (sO σ)))), (a 10, .inl (k 1, 4096, .inl (bA (mPr x)))), (a 11, .inl (k 1, 4096, .inl (bA (mCa x)))), (a 12, .inl (k 0, 4096, .inl (nA (mCs x)))), (a 13, .inl (k 0, 4096, .inl (nA (mVs x)))), (a 14, .inl (k 0, 576, .inl (nA (mSp x)))), (a 15, .inl (k 1, 576, .inl (bA (mMi x))))] sX.heap := hP
  have hD : va_D A [(a 0, .inr (7, [.int (nI (mT x)), .int (nI (sN σ)), .ref (a 1), .ref (a 2), .ref (a 3), .ref (a 4), .ref (a 5), .int (nI (sK σ)), .ref (a 6), .ref (a 7), .ref (a 8), .ref (a 9), .int (sU σ), .int (bI (mKn x)), .ref (a 10), .ref (a 11), .ref (a 12), .ref (a 13), .int (bI (mSa x)), .int (nI (mPo x)), .int (nI (mSm x)), .ref (a 14), .ref (a 15)])), (a 1, .inl (k 0, 12, .inl (nA (sP σ)))), (a 2, .inl (k 0, 12, .inl (nA (sR σ)))), (a 3, .inl (k 0, 12, .inl (nA (sC σ)))), (a 4, .inl (k 0, 12, .inl (nA (sV σ)))), (a 5, .inl (k 0, 12, .inl (nA (sD σ)))), (a 6, .inl (k 0, 10, .inl (nA (sKd σ)))), (a 7, .inl (k 0, 10, .inl (nA (sA σ)))), (a 8, .inl (k 0, 10, .inl (nA (sB σ)))), (a 9, .inl (k 1, 10, .inl (bA (sO σ)))), (a 10, .inl (k 1, 4096, .inl (bA (mPr x)))), (a 11, .inl (k 1, 4096, .inl (bA (mCa x)))), (a 12, .inl (k 0, 4096, .inl (nA (mCs x)))), (a 13, .inl (k 0, 4096, .inl (nA (mVs x)))), (a 14, .inl (k 0, 576, .inl (nA (mSp x)))), (a 15, .inl (k 1, 576, .inl (bA (mMi x))))] := hD
  obtain ⟨hx, hb, hml, hown, hts⟩ := id S
  have hown : sX.vm.findClass RX7 = some mX.cls := hown
  have hl : lv_has ls 4 [(0, .ref (a 0)), (1, .int x9)] := hl
  have lk0 : (Cond.fieldLink RX7 63 "FeatureAnalyzerModel" "thrown" "I").before _ sX = true := hts _ (List.mem_cons_of_mem _ (List.mem_append_left _ (List.mem_append_left _ (List.mem_of_getElem? (i := 0) rfl))))
  have inX7 : ∀ w ∈ wsX70, w ∈ wsX7_nearest := fun w h => List.mem_cons_of_mem _ (List.mem_append_right _ (h))
  have lk1 : (Cond.fieldLink RX7 9 "FeatureAnalyzerModel" "features" "I").before _ sX = true := hts _ (List.mem_cons_of_mem _ (List.mem_append_left _ (List.mem_append_left _ (List.mem_of_getElem? (i := 1) rfl))))
  have lk2 : (Cond.fieldLink RX7 48 "FeatureAnalyzerModel" "areCandidates" "[Z").before _ sX = true := hts _ (List.mem_cons_of_mem _ (List.mem_append_left _ (List.mem_append_left _ (List.mem_of_getElem? (i := 2) rfl))))
  obtain ⟨hwf, hkn, hsa⟩ := id hok
  obtain ⟨hn1, hn, hpl, hpa, hrl, hco, hva, hde, hde0, hkc, hkd, hfa, hfb⟩ := id hwf
  have hpn := pow12 hn
  have hp1 := Nat.one_le_two_pow (n := sN σ)
  refine lv_aload_n hx hb dX7_nearest_0 rfl (lv_at hl 0 rfl) ?_
  refine lv_aload_n hx hb dX7_nearest_1 rfl (lv_at hl 0 rfl) ?_
  refine lv_iload_n hx hb dX7_nearest_2 rfl (lv_at hl 1 rfl) ?_
  refine cV_i (As := [.int x9]) S hP hK hN (m_X7_isConfiguration l G k _ _ _ _ _ _ _ _ _ _ _ _ _ _ _ _ _ _ _ _ _ _ _ _ _ (by omega)) gX7_nearest_X7_isConfiguration rfl rfl rfl hdV_X7_isConfiguration rfl rfl [0] rfl 7 0 rfl rfl rfl rfl hl.1 rfl rfl ⟨Nat.le_of_ble_eq_true rfl, Nat.le_of_ble_eq_true rfl⟩ dX7_nearest_3 (fun rX hr1 => ?_)
  subst hr1
  refine b_if_eq (tgt := 13) hx hb dX7_nearest_6 (by decide) (fun q6 => ?_) (fun q6 => ?_)
  · skip
    have he : e_cfg σ x9 = 1 := by simp [e_cfg, e_if, q6]
    refine n_iconst 1 (by decide) hx hb dX7_nearest_13 ?_
    refine va_put (D := G) (ci := 7) (v := .int (nI 1)) (ty := .int) (C := RX7) (T := TX7) (N := 23) hx hb hts inX7 tyX7 tyX7_ok nmX7 hown hK hP hD hS 0 rfl rfl 0 (by decide) lk0 (fun _ h9 => h9) rfl rfl rfl rfl (Nat.le_of_ble_eq_true rfl) dX7_nearest_14 (fun H locs hP hD hS => ?_)
    have hP : va_P G vwCl [(a 0, .inr (7, [.int (nI 1), .int (nI (sN σ)), .ref (a 1), .ref (a 2), .ref (a 3), .ref (a 4), .ref (a 5), .int (nI (sK σ)), .ref (a 6), .ref (a 7), .ref (a 8), .ref (a 9), .int (sU σ), .int (bI (mKn x)), .ref (a 10), .ref (a 11), .ref (a 12), .ref (a 13), .int (bI (mSa x)), .int (nI (mPo x)), .int (nI (mSm x)), .ref (a 14), .ref (a 15)])), (a 1, .inl (k 0, 12, .inl (nA (sP σ)))), (a 2, .inl (k 0, 12, .inl (nA (sR σ)))), (a 3, .inl (k 0, 12, .inl (nA (sC σ)))), (a 4, .inl (k 0, 12, .inl (nA (sV σ)))), (a 5, .inl (k 0, 12, .inl (nA (sD σ)))), (a 6, .inl (k 0, 10, .inl (nA (sKd σ)))), (a 7, .inl (k 0, 10, .inl (nA (sA σ)))), (a 8, .inl (k 0, 10, .inl (nA (sB σ)))), (a 9, .inl (k 1, 10, .inl (bA (sO σ)))), (a 10, .inl (k 1, 4096, .inl (bA (mPr x)))), (a 11, .inl (k 1, 4096, .inl (bA (mCa x)))), (a 12, .inl (k 0, 4096, .inl (nA (mCs x)))), (a 13, .inl (k 0, 4096, .inl (nA (mVs x)))), (a 14, .inl (k 0, 576, .inl (nA (mSp x)))), (a 15, .inl (k 1, 576, .inl (bA (mMi x))))] H := hP
    have hD : va_D A [(a 0, .inr (7, [.int (nI 1), .int (nI (sN σ)), .ref (a 1), .ref (a 2), .ref (a 3), .ref (a 4), .ref (a 5), .int (nI (sK σ)), .ref (a 6), .ref (a 7), .ref (a 8), .ref (a 9), .int (sU σ), .int (bI (mKn x)), .ref (a 10), .ref (a 11), .ref (a 12), .ref (a 13), .int (bI (mSa x)), .int (nI (mPo x)), .int (nI (mSm x)), .ref (a 14), .ref (a 15)])), (a 1, .inl (k 0, 12, .inl (nA (sP σ)))), (a 2, .inl (k 0, 12, .inl (nA (sR σ)))), (a 3, .inl (k 0, 12, .inl (nA (sC σ)))), (a 4, .inl (k 0, 12, .inl (nA (sV σ)))), (a 5, .inl (k 0, 12, .inl (nA (sD σ)))), (a 6, .inl (k 0, 10, .inl (nA (sKd σ)))), (a 7, .inl (k 0, 10, .inl (nA (sA σ)))), (a 8, .inl (k 0, 10, .inl (nA (sB σ)))), (a 9, .inl (k 1, 10, .inl (bA (sO σ)))), (a 10, .inl (k 1, 4096, .inl (bA (mPr x)))), (a 11, .inl (k 1, 4096, .inl (bA (mCa x)))), (a 12, .inl (k 0, 4096, .inl (nA (mCs x)))), (a 13, .inl (k 0, 4096, .inl (nA (mVs x)))), (a 14, .inl (k 0, 576, .inl (nA (mSp x)))), (a 15, .inl (k 1, 576, .inl (bA (mMi x))))] := hD
    refine lv_aload_n hx hb dX7_nearest_17 rfl (lv_at hl 0 rfl) ?_
    refine va_get (D := G) (ci := 7) (v := .int (nI 1)) (C := RX7) (T := TX7) (N := 23) hx hb hts inX7 hown hK hP 0 rfl rfl 0 (by decide) lk0 (fun _ h9 => h9) rfl dX7_nearest_18 ?_
    refine n_if_eq (tgt := 26) (by omega) hx hb dX7_nearest_21 (by decide) (fun q21 => ?_) (fun q21 => ?_)
    · skip
      exact absurd q21 (by decide)
    · skip
      refine n_iconst 0 (by decide) hx hb dX7_nearest_24 ?_
      exact e_mutI (u := (1, mKn x, mPr x, mCa x, mCs x, mVs x, mSa x, mPo x, mSm x, mSp x, mMi x)) hx hb hr hlk hS hP hK hD (by refine ⟨_, rfl, fun z => absurd (he.symm.trans z) (by decide), by exact MOK_t hok, by exact he.symm⟩) dX7_nearest_25
  · skip
    have he : e_cfg σ x9 = 0 := by simp [e_cfg, e_if, q6]
    obtain ⟨c9, hc9, rfl⟩ := isF_ok (by omega) q6
    refine n_iconst 0 (by decide) hx hb dX7_nearest_9 ?_
    refine lv_goto (tgt := 14) hx hb dX7_nearest_10 (by decide) ?_
    refine va_put (D := G) (ci := 7) (v := .int (nI 0)) (ty := .int) (C := RX7) (T := TX7) (N := 23) hx hb hts inX7 tyX7 tyX7_ok nmX7 hown hK hP hD hS 0 rfl rfl 0 (by decide) lk0 (fun _ h9 => h9) rfl rfl rfl rfl (Nat.le_of_ble_eq_true rfl) dX7_nearest_14 (fun H locs hP hD hS => ?_)
    have hP : va_P G vwCl [(a 0, .inr (7, [.int (nI 0), .int (nI (sN σ)), .ref (a 1), .ref (a 2), .ref (a 3), .ref (a 4), .ref (a 5), .int (nI (sK σ)), .ref (a 6), .ref (a 7), .ref (a 8), .ref (a 9), .int (sU σ), .int (bI (mKn x)), .ref (a 10), .ref (a 11), .ref (a 12), .ref (a 13), .int (bI (mSa x)), .int (nI (mPo x)), .int (nI (mSm x)), .ref (a 14), .ref (a 15)])), (a 1, .inl (k 0, 12, .inl (nA (sP σ)))), (a 2, .inl (k 0, 12, .inl (nA (sR σ)))), (a 3, .inl (k 0, 12, .inl (nA (sC σ)))), (a 4, .inl (k 0, 12, .inl (nA (sV σ)))), (a 5, .inl (k 0, 12, .inl (nA (sD σ)))), (a 6, .inl (k 0, 10, .inl (nA (sKd σ)))), (a 7, .inl (k 0, 10, .inl (nA (sA σ)))), (a 8, .inl (k 0, 10, .inl (nA (sB σ)))), (a 9, .inl (k 1, 10, .inl (bA (sO σ)))), (a 10, .inl (k 1, 4096, .inl (bA (mPr x)))), (a 11, .inl (k 1, 4096, .inl (bA (mCa x)))), (a 12, .inl (k 0, 4096, .inl (nA (mCs x)))), (a 13, .inl (k 0, 4096, .inl (nA (mVs x)))), (a 14, .inl (k 0, 576, .inl (nA (mSp x)))), (a 15, .inl (k 1, 576, .inl (bA (mMi x))))] H := hP
    have hD : va_D A [(a 0, .inr (7, [.int (nI 0), .int (nI (sN σ)), .ref (a 1), .ref (a 2), .ref (a 3), .ref (a 4), .ref (a 5), .int (nI (sK σ)), .ref (a 6), .ref (a 7), .ref (a 8), .ref (a 9), .int (sU σ), .int (bI (mKn x)), .ref (a 10), .ref (a 11), .ref (a 12), .ref (a 13), .int (bI (mSa x)), .int (nI (mPo x)), .int (nI (mSm x)), .ref (a 14), .ref (a 15)])), (a 1, .inl (k 0, 12, .inl (nA (sP σ)))), (a 2, .inl (k 0, 12, .inl (nA (sR σ)))), (a 3, .inl (k 0, 12, .inl (nA (sC σ)))), (a 4, .inl (k 0, 12, .inl (nA (sV σ)))), (a 5, .inl (k 0, 12, .inl (nA (sD σ)))), (a 6, .inl (k 0, 10, .inl (nA (sKd σ)))), (a 7, .inl (k 0, 10, .inl (nA (sA σ)))), (a 8, .inl (k 0, 10, .inl (nA (sB σ)))), (a 9, .inl (k 1, 10, .inl (bA (sO σ)))), (a 10, .inl (k 1, 4096, .inl (bA (mPr x)))), (a 11, .inl (k 1, 4096, .inl (bA (mCa x)))), (a 12, .inl (k 0, 4096, .inl (nA (mCs x)))), (a 13, .inl (k 0, 4096, .inl (nA (mVs x)))), (a 14, .inl (k 0, 576, .inl (nA (mSp x)))), (a 15, .inl (k 1, 576, .inl (bA (mMi x))))] := hD
    refine lv_aload_n hx hb dX7_nearest_17 rfl (lv_at hl 0 rfl) ?_
    refine va_get (D := G) (ci := 7) (v := .int (nI 0)) (C := RX7) (T := TX7) (N := 23) hx hb hts inX7 hown hK hP 0 rfl rfl 0 (by decide) lk0 (fun _ h9 => h9) rfl dX7_nearest_18 ?_
    refine n_if_eq (tgt := 26) (by omega) hx hb dX7_nearest_21 (by decide) (fun q21 => ?_) (fun q21 => ?_)
    · skip
      refine lv_aload_n hx hb dX7_nearest_26 rfl (lv_at hl 0 rfl) ?_
      refine cV_mv (As := []) (wn := fun u : (Nat → Bool) × (Nat → Bool) × (Nat → Nat) × (Nat → Nat) => [(a 0, .inr (7, [.int (nI 0), .int (nI (sN σ)), .ref (a 1), .ref (a 2), .ref (a 3), .ref (a 4), .ref (a 5), .int (nI (sK σ)), .ref (a 6), .ref (a 7), .ref (a 8), .ref (a 9), .int (sU σ), .int (bI true), .ref (a 10), .ref (a 11), .ref (a 12), .ref (a 13), .int (bI (mSa x)), .int (nI (mPo x)), .int (nI (mSm x)), .ref (a 14), .ref (a 15)])), (a 1, .inl (k 0, 12, .inl (nA (sP σ)))), (a 2, .inl (k 0, 12, .inl (nA (sR σ)))), (a 3, .inl (k 0, 12, .inl (nA (sC σ)))), (a 4, .inl (k 0, 12, .inl (nA (sV σ)))), (a 5, .inl (k 0, 12, .inl (nA (sD σ)))), (a 6, .inl (k 0, 10, .inl (nA (sKd σ)))), (a 7, .inl (k 0, 10, .inl (nA (sA σ)))), (a 8, .inl (k 0, 10, .inl (nA (sB σ)))), (a 9, .inl (k 1, 10, .inl (bA (sO σ)))), (a 10, .inl (k 1, 4096, .inl (bA u.1))), (a 11, .inl (k 1, 4096, .inl (bA u.2.1))), (a 12, .inl (k 0, 4096, .inl (nA u.2.2.1))), (a 13, .inl (k 0, 4096, .inl (nA u.2.2.2))), (a 14, .inl (k 0, 576, .inl (nA (mSp x)))), (a 15, .inl (k 1, 576, .inl (bA (mMi x))))]) S hP hK hN hD hS hA (m_X7_know l G k _ a σ _ _ _ _ _ _ _ _ _ _ _ (by assumption) (by assumption)) gX7_nearest_X7_know rfl rfl rfl hdV_X7_know rfl rfl [0, 1, 2, 3, 4, 5, 6, 7, 8, 9, 10, 11, 12, 13, 14, 15] [] [0, 1, 2, 3, 4, 5, 6, 7, 8, 9, 10, 11, 12, 13, 14, 15] rfl rfl rfl rfl rfl (by decide) (fun _ => rfl) (fun _ => rfl) rfl 7 0 rfl rfl rfl rfl hl.1 rfl rfl ⟨Nat.le_of_ble_eq_true rfl, Nat.le_of_ble_eq_true rfl⟩ dX7_nearest_27 (fun u H locs hw2 hP hD hS => ?_)
      obtain ⟨pr92, ca92, cs92, vs92⟩ := u
      try dsimp only at hw2
      have hk2 := hw2
      have hP : va_P G vwCl [(a 0, .inr (7, [.int (nI 0), .int (nI (sN σ)), .ref (a 1), .ref (a 2), .ref (a 3), .ref (a 4), .ref (a 5), .int (nI (sK σ)), .ref (a 6), .ref (a 7), .ref (a 8), .ref (a 9), .int (sU σ), .int (bI true), .ref (a 10), .ref (a 11), .ref (a 12), .ref (a 13), .int (bI (mSa x)), .int (nI (mPo x)), .int (nI (mSm x)), .ref (a 14), .ref (a 15)])), (a 1, .inl (k 0, 12, .inl (nA (sP σ)))), (a 2, .inl (k 0, 12, .inl (nA (sR σ)))), (a 3, .inl (k 0, 12, .inl (nA (sC σ)))), (a 4, .inl (k 0, 12, .inl (nA (sV σ)))), (a 5, .inl (k 0, 12, .inl (nA (sD σ)))), (a 6, .inl (k 0, 10, .inl (nA (sKd σ)))), (a 7, .inl (k 0, 10, .inl (nA (sA σ)))), (a 8, .inl (k 0, 10, .inl (nA (sB σ)))), (a 9, .inl (k 1, 10, .inl (bA (sO σ)))), (a 10, .inl (k 1, 4096, .inl (bA pr92))), (a 11, .inl (k 1, 4096, .inl (bA ca92))), (a 12, .inl (k 0, 4096, .inl (nA cs92))), (a 13, .inl (k 0, 4096, .inl (nA vs92))), (a 14, .inl (k 0, 576, .inl (nA (mSp x)))), (a 15, .inl (k 1, 576, .inl (bA (mMi x))))] H := hP
      have hD : va_D A [(a 0, .inr (7, [.int (nI 0), .int (nI (sN σ)), .ref (a 1), .ref (a 2), .ref (a 3), .ref (a 4), .ref (a 5), .int (nI (sK σ)), .ref (a 6), .ref (a 7), .ref (a 8), .ref (a 9), .int (sU σ), .int (bI true), .ref (a 10), .ref (a 11), .ref (a 12), .ref (a 13), .int (bI (mSa x)), .int (nI (mPo x)), .int (nI (mSm x)), .ref (a 14), .ref (a 15)])), (a 1, .inl (k 0, 12, .inl (nA (sP σ)))), (a 2, .inl (k 0, 12, .inl (nA (sR σ)))), (a 3, .inl (k 0, 12, .inl (nA (sC σ)))), (a 4, .inl (k 0, 12, .inl (nA (sV σ)))), (a 5, .inl (k 0, 12, .inl (nA (sD σ)))), (a 6, .inl (k 0, 10, .inl (nA (sKd σ)))), (a 7, .inl (k 0, 10, .inl (nA (sA σ)))), (a 8, .inl (k 0, 10, .inl (nA (sB σ)))), (a 9, .inl (k 1, 10, .inl (bA (sO σ)))), (a 10, .inl (k 1, 4096, .inl (bA pr92))), (a 11, .inl (k 1, 4096, .inl (bA ca92))), (a 12, .inl (k 0, 4096, .inl (nA cs92))), (a 13, .inl (k 0, 4096, .inl (nA vs92))), (a 14, .inl (k 0, 576, .inl (nA (mSp x)))), (a 15, .inl (k 1, 576, .inl (bA (mMi x))))] := hD
      have HK := hk2
      refine lv_iconst (v := -1) hx hb dX7_nearest_30 (by decide) ?_
      refine lv_istore_n (lv' := [(2, .int (-1)), (0, .ref (a 0)), (1, .int (nI c9))]) hx hb dX7_nearest_31 rfl hl (by decide) rfl (fun ls hl => ?_)
      refine n_iconst 0 (by decide) hx hb dX7_nearest_32 ?_
      refine lv_istore_n (lv' := [(3, .int (nI 0)), (2, .int (-1)), (0, .ref (a 0)), (1, .int (nI c9))]) hx hb dX7_nearest_33 rfl hl (by decide) rfl (fun ls hl => ?_)
      have L34 : ∀ (NN : Nat) (b8 : Int32) (i : Nat), (2 ^ sN σ - i) < NN → (i ≤ 2 ^ sN σ) → (b8 = oI (fstO (candB σ) (fun c b => decide (popc (c ^^^ c9) < popc (b ^^^ c9))) i)) → ∀ (H : Heap) (locs : List Loc), va_P G vwCl [(a 0, .inr (7, [.int (nI 0), .int (nI (sN σ)), .ref (a 1), .ref (a 2), .ref (a 3), .ref (a 4), .ref (a 5), .int (nI (sK σ)), .ref (a 6), .ref (a 7), .ref (a 8), .ref (a 9), .int (sU σ), .int (bI true), .ref (a 10), .ref (a 11), .ref (a 12), .ref (a 13), .int (bI (mSa x)), .int (nI (mPo x)), .int (nI (mSm x)), .ref (a 14), .ref (a 15)])), (a 1, .inl (k 0, 12, .inl (nA (sP σ)))), (a 2, .inl (k 0, 12, .inl (nA (sR σ)))), (a 3, .inl (k 0, 12, .inl (nA (sC σ)))), (a 4, .inl (k 0, 12, .inl (nA (sV σ)))), (a 5, .inl (k 0, 12, .inl (nA (sD σ)))), (a 6, .inl (k 0, 10, .inl (nA (sKd σ)))), (a 7, .inl (k 0, 10, .inl (nA (sA σ)))), (a 8, .inl (k 0, 10, .inl (nA (sB σ)))), (a 9, .inl (k 1, 10, .inl (bA (sO σ)))), (a 10, .inl (k 1, 4096, .inl (bA pr92))), (a 11, .inl (k 1, 4096, .inl (bA ca92))), (a 12, .inl (k 0, 4096, .inl (nA cs92))), (a 13, .inl (k 0, 4096, .inl (nA vs92))), (a 14, .inl (k 0, 576, .inl (nA (mSp x)))), (a 15, .inl (k 1, 576, .inl (bA (mMi x))))] H → va_D A [(a 0, .inr (7, [.int (nI 0), .int (nI (sN σ)), .ref (a 1), .ref (a 2), .ref (a 3), .ref (a 4), .ref (a 5), .int (nI (sK σ)), .ref (a 6), .ref (a 7), .ref (a 8), .ref (a 9), .int (sU σ), .int (bI true), .ref (a 10), .ref (a 11), .ref (a 12), .ref (a 13), .int (bI (mSa x)), .int (nI (mPo x)), .int (nI (mSm x)), .ref (a 14), .ref (a 15)])), (a 1, .inl (k 0, 12, .inl (nA (sP σ)))), (a 2, .inl (k 0, 12, .inl (nA (sR σ)))), (a 3, .inl (k 0, 12, .inl (nA (sC σ)))), (a 4, .inl (k 0, 12, .inl (nA (sV σ)))), (a 5, .inl (k 0, 12, .inl (nA (sD σ)))), (a 6, .inl (k 0, 10, .inl (nA (sKd σ)))), (a 7, .inl (k 0, 10, .inl (nA (sA σ)))), (a 8, .inl (k 0, 10, .inl (nA (sB σ)))), (a 9, .inl (k 1, 10, .inl (bA (sO σ)))), (a 10, .inl (k 1, 4096, .inl (bA pr92))), (a 11, .inl (k 1, 4096, .inl (bA ca92))), (a 12, .inl (k 0, 4096, .inl (nA cs92))), (a 13, .inl (k 0, 4096, .inl (nA vs92))), (a 14, .inl (k 0, 576, .inl (nA (mSp x)))), (a 15, .inl (k 1, 576, .inl (bA (mMi x))))] → va_S A sX.heap H locs → ∀ ls : Array Slot, lv_has ls 4 [(0, .ref (a 0)), (1, .int (nI c9)), (2, .int b8), (3, .int (nI i))] → W pX l eX ({ frames := 4, cells := 0, slots := 0, locals := 91 } : Room) sX mX ([.ref (a 0), .int (nI c9)] : List Value).toArray bX meX cX H locs 0 0 (MQ bX (va_Qi (fun (rX : Int32) (u : (Mx)) => ∃ v : Int32, rX = v ∧ (e_cfg σ (nI c9) = 0 → v = oI (r_nea σ (tn (nI c9)))) ∧ MOK (σ) u ∧ mT u = e_cfg σ (nI c9)) (Bm G k A (fun u : (Mx) => moW k a (σ) u)) A) ([.ref (a 0), .int (nI c9)] : List Value).toArray sX 0 0 A) (F0 mX 34 ls []) := by
        intro NN
        induction NN with
        | zero => intro b8 i hm9; exact absurd hm9 (Nat.not_lt_zero _)
        | succ NN ih34 =>
          intro b8 i hm9 hi ex H locs hP hD hS ls hl
          refine lv_iload_n hx hb dX7_nearest_34 rfl (lv_at hl 3 rfl) ?_
          refine n_iconst 1 (by decide) hx hb dX7_nearest_35 ?_
          refine lv_aload_n hx hb dX7_nearest_36 rfl (lv_at hl 0 rfl) ?_
          refine va_get (D := G) (ci := 7) (v := .int (nI (sN σ))) (C := RX7) (T := TX7) (N := 23) hx hb hts inX7 hown hK hP 0 rfl rfl 1 (by decide) lk1 (fun _ h9 => h9) rfl dX7_nearest_37 ?_
          refine n_ishl1 (by omega) hx hb dX7_nearest_40 ?_
          refine n_icmp_ge (tgt := 81) (by omega) (by omega) hx hb dX7_nearest_41 (by decide) (fun q41 => ?_) (fun q41 => ?_)
          · skip
            refine lv_iload_n hx hb dX7_nearest_81 rfl (lv_at hl 2 rfl) ?_
            exact e_mutI (u := (0, true, pr92, ca92, cs92, vs92, mSa x, mPo x, mSm x, mSp x, mMi x)) hx hb hr hlk hS hP hK hD (by refine ⟨_, rfl, fun _ => by rw [tn_nI (by omega), ex, show i = 2 ^ sN σ by omega]; rfl, by exact ⟨hwf, fun _ => HK, hsa⟩, by exact he.symm⟩) dX7_nearest_82
          · skip
            have hob : ∀ x, fstO (candB σ) (fun c b => decide (popc (c ^^^ c9) < popc (b ^^^ c9))) i = some x → x < 2147483648 := fun x h => by have := (fstO_lt h).1; omega
            refine lv_aload_n hx hb dX7_nearest_44 rfl (lv_at hl 0 rfl) ?_
            refine va_get (D := G) (ci := 7) (v := .ref (a 11)) (C := RX7) (T := TX7) (N := 23) hx hb hts inX7 hown hK hP 0 rfl rfl 15 (by decide) lk2 (fun _ h9 => h9) rfl dX7_nearest_45 ?_
            refine lv_iload_n hx hb dX7_nearest_48 rfl (lv_at hl 3 rfl) ?_
            refine b_bald hx hb hK hP 11 rfl (by omega) (by first | decide | omega) dX7_nearest_49 ?_
            refine b_if_eq (tgt := 75) hx hb dX7_nearest_50 (by decide) (fun q50 => ?_) (fun q50 => ?_)
            · skip
              have hc : candB σ i = false := by rw [← (HK i (by omega)).2.1]; exact q50
              have hq := fstO_no (bt := (fun c b => decide (popc (c ^^^ c9) < popc (b ^^^ c9)))) hc
              refine n_iinc (lv' := [(3, .int (nI (i + 1))), (0, .ref (a 0)), (1, .int (nI c9)), (2, .int b8)]) (k := 3) 1 hx hb dX7_nearest_75 hl rfl (by decide) (by decide) rfl (fun ls hl => ?_)
              refine lv_goto (tgt := 34) hx hb dX7_nearest_78 (by decide) ?_
              exact ih34 (b8) (i + 1) (by omega) (by omega) (by first | (rw [hq]; exact ex) | (rw [hq]; rfl)) _ _ hP hD hS _ (lv_sub hl [1, 2, 3, 0] rfl)
            · skip
              have hc : candB σ i = true := by rw [← (HK i (by omega)).2.1]; exact q50
              refine lv_iload_n hx hb dX7_nearest_53 rfl (lv_at hl 2 rfl) ?_
              refine lv_iconst (v := -1) hx hb dX7_nearest_54 (by decide) ?_
              refine lv_icmp_eq (tgt := 73) hx hb dX7_nearest_55 (by decide) (fun q55 => ?_) (fun q55 => ?_)
              · skip
                have hq := fstO_first (bt := (fun c b => decide (popc (c ^^^ c9) < popc (b ^^^ c9)))) hc ((oI_none hob).mp (ex.symm.trans q55))
                refine lv_iload_n hx hb dX7_nearest_73 rfl (lv_at hl 3 rfl) ?_
                refine lv_istore_n (lv' := [(2, .int (nI i)), (0, .ref (a 0)), (1, .int (nI c9)), (3, .int (nI i))]) hx hb dX7_nearest_74 rfl hl (by decide) rfl (fun ls hl => ?_)
                refine n_iinc (lv' := [(3, .int (nI (i + 1))), (2, .int (nI i)), (0, .ref (a 0)), (1, .int (nI c9))]) (k := 3) 1 hx hb dX7_nearest_75 hl rfl (by decide) (by decide) rfl (fun ls hl => ?_)
                refine lv_goto (tgt := 34) hx hb dX7_nearest_78 (by decide) ?_
                exact ih34 ((nI i)) (i + 1) (by omega) (by omega) (by first | (rw [hq]; exact ex) | (rw [hq]; rfl)) _ _ hP hD hS _ (lv_sub hl [2, 3, 1, 0] rfl)
              · skip
                obtain ⟨b9, hb9⟩ : ∃ b, fstO (candB σ) (fun c b => decide (popc (c ^^^ c9) < popc (b ^^^ c9))) i = some b := by cases h : fstO (candB σ) (fun c b => decide (popc (c ^^^ c9) < popc (b ^^^ c9))) i with | none => exact absurd (by rw [ex, h]; rfl) q55 | some b => exact ⟨b, rfl⟩
                obtain rfl : b8 = nI b9 := by rw [ex, hb9]; rfl
                have hbl := (fstO_lt hb9).1
                have hki := HK i (by omega)
                have hkb := HK b9 (by omega)
                refine lv_iload_n hx hb dX7_nearest_58 rfl (lv_at hl 3 rfl) ?_
                refine lv_iload_n hx hb dX7_nearest_59 rfl (lv_at hl 1 rfl) ?_
                refine n_ixor hx hb dX7_nearest_60 ?_
                refine cS_i (As := [.int (nI (i ^^^ c9))]) S hP hK hN (m_J6_bitCount l G k _ (by exact Nat.lt_trans (xor_lt12 (by omega) (by omega)) (by decide))) gX7_nearest_J6_bitCount_0f7a4 rfl rfl rfl hdS_J6_bitCount_0f7a4 rfl rfl [] rfl rfl hl.1 rfl rfl ⟨Nat.le_of_ble_eq_true rfl, Nat.le_of_ble_eq_true rfl⟩ dX7_nearest_61 (fun rX hr3 => ?_)
                subst hr3
                refine lv_iload_n hx hb dX7_nearest_64 rfl (lv_at hl 2 rfl) ?_
                refine lv_iload_n hx hb dX7_nearest_65 rfl (lv_at hl 1 rfl) ?_
                refine n_ixor hx hb dX7_nearest_66 ?_
                refine cS_i (As := [.int (nI (b9 ^^^ c9))]) S hP hK hN (m_J6_bitCount l G k _ (by exact Nat.lt_trans (xor_lt12 (by omega) (by omega)) (by decide))) gX7_nearest_J6_bitCount_0f7a4 rfl rfl rfl hdS_J6_bitCount_0f7a4 rfl rfl [] rfl rfl hl.1 rfl rfl ⟨Nat.le_of_ble_eq_true rfl, Nat.le_of_ble_eq_true rfl⟩ dX7_nearest_67 (fun rX hr4 => ?_)
                subst hr4
                refine n_icmp_ge (tgt := 75) (by exact popc_lt _) (by exact popc_lt _) hx hb dX7_nearest_70 (by decide) (fun q70 => ?_) (fun q70 => ?_)
                · skip
                  have hq := fstO_keep hc hb9 (bt := (fun c b => decide (popc (c ^^^ c9) < popc (b ^^^ c9)))) (decide_eq_false (by omega))
                  refine n_iinc (lv' := [(3, .int (nI (i + 1))), (0, .ref (a 0)), (1, .int (nI c9)), (2, .int (nI b9))]) (k := 3) 1 hx hb dX7_nearest_75 hl rfl (by decide) (by decide) rfl (fun ls hl => ?_)
                  refine lv_goto (tgt := 34) hx hb dX7_nearest_78 (by decide) ?_
                  exact ih34 ((nI b9)) (i + 1) (by omega) (by omega) (by first | (rw [hq]; exact ex) | (rw [hq]; rfl)) _ _ hP hD hS _ (lv_sub hl [1, 2, 3, 0] rfl)
                · skip
                  have hq := fstO_better hc hb9 (bt := (fun c b => decide (popc (c ^^^ c9) < popc (b ^^^ c9)))) (decide_eq_true (by omega))
                  refine lv_iload_n hx hb dX7_nearest_73 rfl (lv_at hl 3 rfl) ?_
                  refine lv_istore_n (lv' := [(2, .int (nI i)), (0, .ref (a 0)), (1, .int (nI c9)), (3, .int (nI i))]) hx hb dX7_nearest_74 rfl hl (by decide) rfl (fun ls hl => ?_)
                  refine n_iinc (lv' := [(3, .int (nI (i + 1))), (2, .int (nI i)), (0, .ref (a 0)), (1, .int (nI c9))]) (k := 3) 1 hx hb dX7_nearest_75 hl rfl (by decide) (by decide) rfl (fun ls hl => ?_)
                  refine lv_goto (tgt := 34) hx hb dX7_nearest_78 (by decide) ?_
                  exact ih34 ((nI i)) (i + 1) (by omega) (by omega) (by first | (rw [hq]; exact ex) | (rw [hq]; rfl)) _ _ hP hD hS _ (lv_sub hl [2, 3, 1, 0] rfl)
      exact L34 _ ((-1)) (0) (Nat.lt_succ_self _) (by omega) (by rfl) _ _ hP hD hS _ (lv_sub hl [2, 3, 1, 0] rfl)
    · skip
      exact absurd q21 (by decide)
