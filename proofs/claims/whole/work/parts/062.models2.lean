set_option maxHeartbeats 4000000 in
set_option maxRecDepth 100000 in
theorem m_X7_share (l : Launch) (G : va_G) (k : Nat → ClassId) (sz : Nat) (a : Nat → Nat) (σ : Sg) (x : Mx) (x9 : Int32) (hok : MOK σ x) : Met l yX7_share wsX7_share ({ frames := 5, cells := 0, slots := 0, locals := 112 } : Room) (va_Pc [.ref (a 0), .int x9] (Wm G k (moW k a σ x) sz)) (va_Qd (fun (rX : UInt64) (u : (Mx)) => ∃ v : UInt64, rX = v ∧ (e_fea σ x9 = 0 → v = r_sha σ (tn x9)) ∧ MOK (σ) u ∧ mT u = e_fea σ x9) (Bm G k (va_A (moW k a σ x) sz) (fun u : (Mx) => moW k a (σ) u)) (va_A (moW k a σ x) sz)) 0 0 (va_A (moW k a σ x) sz) := by
  refine met_mk (cc := cX7_share) (maxL := 3) (ret := (some .double)) (by decide) rfl rfl ?_
  intro pX eX sX mX bX meX cX S hr hlk hnm hB ls hl
  obtain ⟨hsz, hP, hK, hN, hD0⟩ := hB
  subst hsz
  have hD := hD0.self (sz := sX.heap.size)
  generalize hAe : va_A (moW k a σ x) sX.heap.size = A at hD ⊢
  have hA : ∀ q : Nat, sX.heap.size ≤ q → A q := fun q h => by rw [← hAe]; exact Or.inr h
  have hS : va_S A sX.heap sX.heap [] := va_S.rf
  have hP : va_P G vwCl [(a 0, .inr (7, [.int (nI (mT x)), .int (nI (sN σ)), .ref (a 1), .ref (a 2), .ref (a 3), .ref (a 4), .ref (a 5), .int (nI (sK σ)), .ref (a 6), .ref (a 7), .ref (a 8), .ref (a 9), .int (sU σ), .int (bI (mKn x)), .ref (a 10), .ref (a 11), .ref (a 12), .ref (a 13), .int (bI (mSa x)), .int (nI (mPo x)), .int (nI (mSm x)), .ref (a 14), .ref (a 15)])), (a 1, .inl (k 0, 12, .inl (nA (sP σ)))), (a 2, .inl (k 0, 12, .inl (nA (sR σ)))), (a 3, .inl (k 0, 12, .inl (nA (sC σ)))), (a 4, .inl (k 0, 12, .inl (nA (sV σ)))), (a 5, .inl (k 0, 12, .inl (nA (sD σ)))), (a 6, .inl (k 0, 10, .inl (nA (sKd σ)))), (a 7, .inl (k 0, 10, .inl (nA (sA σ)))), (a 8, .inl (k 0, 10, .inl (nA (sB σ)))), (a 9, .inl (k 1, 10, .inl (bA (sO σ)))), (a 10, .inl (k 1, 4096, .inl (bA (mPr x)))), (a 11, .inl (k 1, 4096, .inl (bA (mCa x)))), (a 12, .inl (k 0, 4096, .inl (nA (mCs x)))), (a 13, .inl (k 0, 4096, .inl (nA (mVs x)))), (a 14, .inl (k 0, 576, .inl (nA (mSp x)))), (a 15, .inl (k 1, 576, .inl (bA (mMi x))))] sX.heap := hP
  have hD : va_D A [(a 0, .inr (7, [.int (nI (mT x)), .int (nI (sN σ)), .ref (a 1), .ref (a 2), .ref (a 3), .ref (a 4), .ref (a 5), .int (nI (sK σ)), .ref (a 6), .ref (a 7), .ref (a 8), .ref (a 9), .int (sU σ), .int (bI (mKn x)), .ref (a 10), .ref (a 11), .ref (a 12), .ref (a 13), .int (bI (mSa x)), .int (nI (mPo x)), .int (nI (mSm x)), .ref (a 14), .ref (a 15)])), (a 1, .inl (k 0, 12, .inl (nA (sP σ)))), (a 2, .inl (k 0, 12, .inl (nA (sR σ)))), (a 3, .inl (k 0, 12, .inl (nA (sC σ)))), (a 4, .inl (k 0, 12, .inl (nA (sV σ)))), (a 5, .inl (k 0, 12, .inl (nA (sD σ)))), (a 6, .inl (k 0, 10, .inl (nA (sKd σ)))), (a 7, .inl (k 0, 10, .inl (nA (sA σ)))), (a 8, .inl (k 0, 10, .inl (nA (sB σ)))), (a 9, .inl (k 1, 10, .inl (bA (sO σ)))), (a 10, .inl (k 1, 4096, .inl (bA (mPr x)))), (a 11, .inl (k 1, 4096, .inl (bA (mCa x)))), (a 12, .inl (k 0, 4096, .inl (nA (mCs x)))), (a 13, .inl (k 0, 4096, .inl (nA (mVs x)))), (a 14, .inl (k 0, 576, .inl (nA (mSp x)))), (a 15, .inl (k 1, 576, .inl (bA (mMi x))))] := hD
  obtain ⟨hx, hb, hml, hown, hts⟩ := id S
  have hown : sX.vm.findClass RX7 = some mX.cls := hown
  have hl : lv_has ls 3 [(0, .ref (a 0)), (1, .int x9)] := hl
  have lk0 : (Cond.fieldLink RX7 48 "FeatureAnalyzerModel" "areCandidates" "[Z").before _ sX = true := hts _ (List.mem_cons_of_mem _ (List.mem_append_left _ (List.mem_append_left _ (List.mem_of_getElem? (i := 0) rfl))))
  have inX7 : ∀ w ∈ wsX70, w ∈ wsX7_share := fun w h => List.mem_cons_of_mem _ (List.mem_append_right _ (h))
  obtain ⟨hwf, hkn, hsa⟩ := id hok
  obtain ⟨hn1, hn, hpl, hpa, hrl, hco, hva, hde, hde0, hkc, hkd, hfa, hfb⟩ := id hwf
  have hpn := pow12 hn
  have hp1 := Nat.one_le_two_pow (n := sN σ)
  refine lv_aload_n hx hb dX7_share_0 rfl (lv_at hl 0 rfl) ?_
  refine lv_iload_n hx hb dX7_share_1 rfl (lv_at hl 1 rfl) ?_
  refine cV_mi (As := [.int x9]) (wn := fun u : (Nat → Bool) × (Nat → Bool) × (Nat → Nat) × (Nat → Nat) => [(a 0, .inr (7, [.int (nI (e_fea σ x9)), .int (nI (sN σ)), .ref (a 1), .ref (a 2), .ref (a 3), .ref (a 4), .ref (a 5), .int (nI (sK σ)), .ref (a 6), .ref (a 7), .ref (a 8), .ref (a 9), .int (sU σ), .int (bI true), .ref (a 10), .ref (a 11), .ref (a 12), .ref (a 13), .int (bI (mSa x)), .int (nI (mPo x)), .int (nI (mSm x)), .ref (a 14), .ref (a 15)])), (a 1, .inl (k 0, 12, .inl (nA (sP σ)))), (a 2, .inl (k 0, 12, .inl (nA (sR σ)))), (a 3, .inl (k 0, 12, .inl (nA (sC σ)))), (a 4, .inl (k 0, 12, .inl (nA (sV σ)))), (a 5, .inl (k 0, 12, .inl (nA (sD σ)))), (a 6, .inl (k 0, 10, .inl (nA (sKd σ)))), (a 7, .inl (k 0, 10, .inl (nA (sA σ)))), (a 8, .inl (k 0, 10, .inl (nA (sB σ)))), (a 9, .inl (k 1, 10, .inl (bA (sO σ)))), (a 10, .inl (k 1, 4096, .inl (bA u.1))), (a 11, .inl (k 1, 4096, .inl (bA u.2.1))), (a 12, .inl (k 0, 4096, .inl (nA u.2.2.1))), (a 13, .inl (k 0, 4096, .inl (nA u.2.2.2))), (a 14, .inl (k 0, 576, .inl (nA (mSp x)))), (a 15, .inl (k 1, 576, .inl (bA (mMi x))))]) S hP hK hN hD hS hA (m_X7_asks l G k _ a σ _ _ _ _ _ _ _ _ _ _ _ _ (by assumption) (by assumption)) gX7_share_X7_asks rfl rfl rfl hdV_X7_asks rfl rfl [0, 1, 2, 3, 4, 5, 6, 7, 8, 9, 10, 11, 12, 13, 14, 15] [] [0, 1, 2, 3, 4, 5, 6, 7, 8, 9, 10, 11, 12, 13, 14, 15] rfl rfl rfl rfl rfl (by decide) (fun _ => rfl) (fun _ => rfl) rfl 7 0 rfl rfl rfl rfl hl.1 rfl rfl ⟨Nat.le_of_ble_eq_true rfl, Nat.le_of_ble_eq_true rfl⟩ dX7_share_2 (fun rX u H locs hw1 hP hD hS => ?_)
  obtain ⟨pr91, ca91, cs91, vs91⟩ := u
  try dsimp only at hw1
  obtain ⟨rfl, hk1⟩ := hw1
  have hP : va_P G vwCl [(a 0, .inr (7, [.int (nI (e_fea σ x9)), .int (nI (sN σ)), .ref (a 1), .ref (a 2), .ref (a 3), .ref (a 4), .ref (a 5), .int (nI (sK σ)), .ref (a 6), .ref (a 7), .ref (a 8), .ref (a 9), .int (sU σ), .int (bI true), .ref (a 10), .ref (a 11), .ref (a 12), .ref (a 13), .int (bI (mSa x)), .int (nI (mPo x)), .int (nI (mSm x)), .ref (a 14), .ref (a 15)])), (a 1, .inl (k 0, 12, .inl (nA (sP σ)))), (a 2, .inl (k 0, 12, .inl (nA (sR σ)))), (a 3, .inl (k 0, 12, .inl (nA (sC σ)))), (a 4, .inl (k 0, 12, .inl (nA (sV σ)))), (a 5, .inl (k 0, 12, .inl (nA (sD σ)))), (a 6, .inl (k 0, 10, .inl (nA (sKd σ)))), (a 7, .inl (k 0, 10, .inl (nA (sA σ)))), (a 8, .inl (k 0, 10, .inl (nA (sB σ)))), (a 9, .inl (k 1, 10, .inl (bA (sO σ)))), (a 10, .inl (k 1, 4096, .inl (bA pr91))), (a 11, .inl (k 1, 4096, .inl (bA ca91))), (a 12, .inl (k 0, 4096, .inl (nA cs91))), (a 13, .inl (k 0, 4096, .inl (nA vs91))), (a 14, .inl (k 0, 576, .inl (nA (mSp x)))), (a 15, .inl (k 1, 576, .inl (bA (mMi x))))] H := hP
  have hD : va_D A [(a 0, .inr (7, [.int (nI (e_fea σ x9)), .int (nI (sN σ)), .ref (a 1), .ref (a 2), .ref (a 3), .ref (a 4), .ref (a 5), .int (nI (sK σ)), .ref (a 6), .ref (a 7), .ref (a 8), .ref (a 9), .int (sU σ), .int (bI true), .ref (a 10), .ref (a 11), .ref (a 12), .ref (a 13), .int (bI (mSa x)), .int (nI (mPo x)), .int (nI (mSm x)), .ref (a 14), .ref (a 15)])), (a 1, .inl (k 0, 12, .inl (nA (sP σ)))), (a 2, .inl (k 0, 12, .inl (nA (sR σ)))), (a 3, .inl (k 0, 12, .inl (nA (sC σ)))), (a 4, .inl (k 0, 12, .inl (nA (sV σ)))), (a 5, .inl (k 0, 12, .inl (nA (sD σ)))), (a 6, .inl (k 0, 10, .inl (nA (sKd σ)))), (a 7, .inl (k 0, 10, .inl (nA (sA σ)))), (a 8, .inl (k 0, 10, .inl (nA (sB σ)))), (a 9, .inl (k 1, 10, .inl (bA (sO σ)))), (a 10, .inl (k 1, 4096, .inl (bA pr91))), (a 11, .inl (k 1, 4096, .inl (bA ca91))), (a 12, .inl (k 0, 4096, .inl (nA cs91))), (a 13, .inl (k 0, 4096, .inl (nA vs91))), (a 14, .inl (k 0, 576, .inl (nA (mSp x)))), (a 15, .inl (k 1, 576, .inl (bA (mMi x))))] := hD
  refine b_if_ne (tgt := 10) hx hb dX7_share_5 (by decide) (fun q5 => ?_) (fun q5 => ?_)
  · skip
    have he : e_fea σ x9 = 0 := by simp [e_fea, e_if, q5]
    obtain ⟨f9, hf9, rfl⟩ := isF_ok (by omega) q5
    have hcl2 := cntC_le hwf
    have hcc := kn_cc hk1
    refine lv_aload_n hx hb dX7_share_10 rfl (lv_at hl 0 rfl) ?_
    refine lv_aload_n hx hb dX7_share_11 rfl (lv_at hl 0 rfl) ?_
    refine va_get (D := G) (ci := 7) (v := .ref (a 11)) (C := RX7) (T := TX7) (N := 23) hx hb hts inX7 hown hK hP 0 rfl rfl 15 (by decide) lk0 (fun _ h9 => h9) rfl dX7_share_12 ?_
    refine cV_i (As := [.ref (a 11)]) S hP hK hN (m_X7_count l G k _ _ _ _ _ _ _ _ _ _ _ _ _ _ _ _ _ _ _ _ _ _ _ _ _ _ (by omega)) gX7_share_X7_count rfl rfl rfl hdV_X7_count rfl rfl [0, 11] rfl 7 0 rfl rfl rfl rfl hl.1 rfl rfl ⟨Nat.le_of_ble_eq_true rfl, Nat.le_of_ble_eq_true rfl⟩ dX7_share_15 (fun rX hr2 => ?_)
    subst hr2
    refine lv_istore_n (lv' := [(2, .int (nI (fb_ct ca91 (2 ^ (sN σ))))), (0, .ref (a 0)), (1, .int (nI f9))]) hx hb dX7_share_18 rfl hl (by decide) rfl (fun ls hl => ?_)
    refine lv_iload_n hx hb dX7_share_19 rfl (lv_at hl 0 rfl) ?_
    refine n_if_ne (tgt := 27) (by omega) hx hb dX7_share_20 (by decide) (fun q20 => ?_) (fun q20 => ?_)
    · skip
      refine lv_aload_n hx hb dX7_share_27 rfl (lv_at hl 1 rfl) ?_
      refine lv_aload_n hx hb dX7_share_28 rfl (lv_at hl 1 rfl) ?_
      refine va_get (D := G) (ci := 7) (v := .ref (a 11)) (C := RX7) (T := TX7) (N := 23) hx hb hts inX7 hown hK hP 0 rfl rfl 15 (by decide) lk0 (fun _ h9 => h9) rfl dX7_share_29 ?_
      refine lv_iload_n hx hb dX7_share_32 rfl (lv_at hl 2 rfl) ?_
      refine cV_i (As := [.ref (a 11), .int (nI f9)]) S hP hK hN (m_X7_countWith l G k _ _ _ _ _ _ _ _ _ _ _ _ _ _ _ _ _ _ _ _ _ _ _ _ _ _ _ (by omega) (by omega)) gX7_share_X7_countWith rfl rfl rfl hdV_X7_countWith rfl rfl [0, 11] rfl 7 0 rfl rfl rfl rfl hl.1 rfl rfl ⟨Nat.le_of_ble_eq_true rfl, Nat.le_of_ble_eq_true rfl⟩ dX7_share_33 (fun rX hr3 => ?_)
      subst hr3
      refine lv_i2d hx hb dX7_share_36 ?_
      refine lv_iload_n hx hb dX7_share_37 rfl (lv_at hl 0 rfl) ?_
      refine lv_i2d hx hb dX7_share_38 ?_
      refine lv_ddiv hx hb dX7_share_39 (by exact n64_div (by rw [kn_wc hk1]; exact cwC_le hwf _) (by rw [kn_cc hk1]; exact cntC_le hwf) (by omega)) ?_
      exact e_mutD (u := (e_fea σ (nI f9), true, pr91, ca91, cs91, vs91, mSa x, mPo x, mSm x, mSp x, mMi x)) hx hb hr hlk hS hP hK hD (by first | (refine ⟨_, rfl, fun z => absurd (he.symm.trans z) (by decide), by exact ⟨hwf, fun _ => hk1, hsa⟩, by rfl⟩) | (exact ⟨_, rfl, fun _ => (by rw [tn_nI (by omega)]; unfold r_sha; rw [kn_cc hk1] at q20; rw [if_pos q20]; rfl), ⟨hwf, fun _ => hk1, hsa⟩, rfl⟩) | (exact ⟨_, rfl, fun _ => (by rw [tn_nI (by omega)]; unfold r_sha; rw [kn_cc hk1] at q20; rw [if_neg (Nat.pos_iff_ne_zero.mp q20), ← kn_wc hk1, ← kn_cc hk1]), ⟨hwf, fun _ => hk1, hsa⟩, rfl⟩)) dX7_share_40
    · skip
      refine lv_dconst0 hx hb dX7_share_23 ?_
      refine lv_goto (tgt := 40) hx hb dX7_share_24 (by decide) ?_
      exact e_mutD (u := (e_fea σ (nI f9), true, pr91, ca91, cs91, vs91, mSa x, mPo x, mSm x, mSp x, mMi x)) hx hb hr hlk hS hP hK hD (by first | (refine ⟨_, rfl, fun z => absurd (he.symm.trans z) (by decide), by exact ⟨hwf, fun _ => hk1, hsa⟩, by rfl⟩) | (exact ⟨_, rfl, fun _ => (by rw [tn_nI (by omega)]; unfold r_sha; rw [kn_cc hk1] at q20; rw [if_pos q20]; rfl), ⟨hwf, fun _ => hk1, hsa⟩, rfl⟩) | (exact ⟨_, rfl, fun _ => (by rw [tn_nI (by omega)]; unfold r_sha; rw [kn_cc hk1] at q20; rw [if_neg (Nat.pos_iff_ne_zero.mp q20), ← kn_wc hk1, ← kn_cc hk1]), ⟨hwf, fun _ => hk1, hsa⟩, rfl⟩)) dX7_share_40
  · skip
    have he : e_fea σ x9 = 1 := by simp [e_fea, e_if, q5]
    refine lv_dconst0 hx hb dX7_share_8 ?_
    exact e_mutD (u := (e_fea σ x9, true, pr91, ca91, cs91, vs91, mSa x, mPo x, mSm x, mSp x, mMi x)) hx hb hr hlk hS hP hK hD (by first | (refine ⟨_, rfl, fun z => absurd (he.symm.trans z) (by decide), by exact ⟨hwf, fun _ => hk1, hsa⟩, by rfl⟩) | (exact ⟨_, rfl, fun _ => (by rw [tn_nI (by omega)]; unfold r_sha; rw [kn_cc hk1] at q20; rw [if_pos q20]; rfl), ⟨hwf, fun _ => hk1, hsa⟩, rfl⟩) | (exact ⟨_, rfl, fun _ => (by rw [tn_nI (by omega)]; unfold r_sha; rw [kn_cc hk1] at q20; rw [if_neg (Nat.pos_iff_ne_zero.mp q20), ← kn_wc hk1, ← kn_cc hk1]), ⟨hwf, fun _ => hk1, hsa⟩, rfl⟩)) dX7_share_9
set_option maxHeartbeats 4000000 in
set_option maxRecDepth 100000 in
theorem m_X7_digest (l : Launch) (G : va_G) (k : Nat → ClassId) (sz : Nat) (a : Nat → Nat) (σ : Sg) (x : Mx)  (hok : MOK σ x) : Met l yX7_digest wsX7_digest ({ frames := 4, cells := 0, slots := 0, locals := 91 } : Room) (va_Pc [.ref (a 0)] (Wm G k (moW k a σ x) sz)) (va_Ql (fun (rX : Int64) (u : (Mx)) => ∃ v : Int64, rX = v ∧ (0 = 0 → v = r_dig σ) ∧ MOK (σ) u ∧ mT u = 0) (Bm G k (va_A (moW k a σ x) sz) (fun u : (Mx) => moW k a (σ) u)) (va_A (moW k a σ x) sz)) 0 0 (va_A (moW k a σ x) sz) := by
  refine met_mk (cc := cX7_digest) (maxL := 4) (ret := (some .long)) (by decide) rfl rfl ?_
  intro pX eX sX mX bX meX cX S hr hlk hnm hB ls hl
  obtain ⟨hsz, hP, hK, hN, hD0⟩ := hB
  subst hsz
  have hD := hD0.self (sz := sX.heap.size)
  generalize hAe : va_A (moW k a σ x) sX.heap.size = A at hD ⊢
  have hA : ∀ q : Nat, sX.heap.size ≤ q → A q := fun q h => by rw [← hAe]; exact Or.inr h
  have hS : va_S A sX.heap sX.heap [] := va_S.rf
  have hP : va_P G vwCl [(a 0, .inr (7, [.int (nI (mT x)), .int (nI (sN σ)), .ref (a 1), .ref (a 2), .ref (a 3), .ref (a 4), .ref (a 5), .int (nI (sK σ)), .ref (a 6), .ref (a 7), .ref (a 8), .ref (a 9), .int (sU σ), .int (bI (mKn x)), .ref (a 10), .ref (a 11), .ref (a 12), .ref (a 13), .int (bI (mSa x)), .int (nI (mPo x)), .int (nI (mSm x)), .ref (a 14), .ref (a 15)])), (a 1, .inl (k 0, 12, .inl (nA (sP σ)))), (a 2, .inl (k 0, 12, .inl (nA (sR σ)))), (a 3, .inl (k 0, 12, .inl (nA (sC σ)))), (a 4, .inl (k 0, 12, .inl (nA (sV σ)))), (a 5, .inl (k 0, 12, .inl (nA (sD σ)))), (a 6, .inl (k 0, 10, .inl (nA (sKd σ)))), (a 7, .inl (k 0, 10, .inl (nA (sA σ)))), (a 8, .inl (k 0, 10, .inl (nA (sB σ)))), (a 9, .inl (k 1, 10, .inl (bA (sO σ)))), (a 10, .inl (k 1, 4096, .inl (bA (mPr x)))), (a 11, .inl (k 1, 4096, .inl (bA (mCa x)))), (a 12, .inl (k 0, 4096, .inl (nA (mCs x)))), (a 13, .inl (k 0, 4096, .inl (nA (mVs x)))), (a 14, .inl (k 0, 576, .inl (nA (mSp x)))), (a 15, .inl (k 1, 576, .inl (bA (mMi x))))] sX.heap := hP
  have hD : va_D A [(a 0, .inr (7, [.int (nI (mT x)), .int (nI (sN σ)), .ref (a 1), .ref (a 2), .ref (a 3), .ref (a 4), .ref (a 5), .int (nI (sK σ)), .ref (a 6), .ref (a 7), .ref (a 8), .ref (a 9), .int (sU σ), .int (bI (mKn x)), .ref (a 10), .ref (a 11), .ref (a 12), .ref (a 13), .int (bI (mSa x)), .int (nI (mPo x)), .int (nI (mSm x)), .ref (a 14), .ref (a 15)])), (a 1, .inl (k 0, 12, .inl (nA (sP σ)))), (a 2, .inl (k 0, 12, .inl (nA (sR σ)))), (a 3, .inl (k 0, 12, .inl (nA (sC σ)))), (a 4, .inl (k 0, 12, .inl (nA (sV σ)))), (a 5, .inl (k 0, 12, .inl (nA (sD σ)))), (a 6, .inl (k 0, 10, .inl (nA (sKd σ)))), (a 7, .inl (k 0, 10, .inl (nA (sA σ)))), (a 8, .inl (k 0, 10, .inl (nA (sB σ)))), (a 9, .inl (k 1, 10, .inl (bA (sO σ)))), (a 10, .inl (k 1, 4096, .inl (bA (mPr x)))), (a 11, .inl (k 1, 4096, .inl (bA (mCa x)))), (a 12, .inl (k 0, 4096, .inl (nA (mCs x)))), (a 13, .inl (k 0, 4096, .inl (nA (mVs x)))), (a 14, .inl (k 0, 576, .inl (nA (mSp x)))), (a 15, .inl (k 1, 576, .inl (bA (mMi x))))] := hD
  obtain ⟨hx, hb, hml, hown, hts⟩ := id S
  have hown : sX.vm.findClass RX7 = some mX.cls := hown
  have hl : lv_has ls 4 [(0, .ref (a 0))] := hl
  have lk0 : (Cond.fieldLink RX7 63 "FeatureAnalyzerModel" "thrown" "I").before _ sX = true := hts _ (List.mem_cons_of_mem _ (List.mem_append_left _ (List.mem_append_left _ (List.mem_of_getElem? (i := 0) rfl))))
  have inX7 : ∀ w ∈ wsX70, w ∈ wsX7_digest := fun w h => List.mem_cons_of_mem _ (List.mem_append_right _ (h))
  have lk1 : (Cond.constantLong RX7 175 (4309)).before _ sX = true := hts _ (List.mem_cons_of_mem _ (List.mem_append_left _ (List.mem_append_left _ (List.mem_of_getElem? (i := 1) rfl))))
  have lk2 : (Cond.fieldLink RX7 9 "FeatureAnalyzerModel" "features" "I").before _ sX = true := hts _ (List.mem_cons_of_mem _ (List.mem_append_left _ (List.mem_append_left _ (List.mem_of_getElem? (i := 2) rfl))))
  have lk3 : (Cond.constantLong RX7 177 (31)).before _ sX = true := hts _ (List.mem_cons_of_mem _ (List.mem_append_left _ (List.mem_append_left _ (List.mem_of_getElem? (i := 3) rfl))))
  have lk4 : (Cond.fieldLink RX7 84 "FeatureAnalyzerModel" "constraints" "I").before _ sX = true := hts _ (List.mem_cons_of_mem _ (List.mem_append_left _ (List.mem_append_left _ (List.mem_of_getElem? (i := 9) rfl))))
  have lk5 : (Cond.fieldLink RX7 42 "FeatureAnalyzerModel" "budget" "I").before _ sX = true := hts _ (List.mem_cons_of_mem _ (List.mem_append_left _ (List.mem_append_left _ (List.mem_of_getElem? (i := 14) rfl))))
  have lk6 : (Cond.fieldLink RX7 45 "FeatureAnalyzerModel" "areProducts" "[Z").before _ sX = true := hts _ (List.mem_cons_of_mem _ (List.mem_append_left _ (List.mem_append_left _ (List.mem_of_getElem? (i := 15) rfl))))
  have lk7 : (Cond.fieldLink RX7 48 "FeatureAnalyzerModel" "areCandidates" "[Z").before _ sX = true := hts _ (List.mem_cons_of_mem _ (List.mem_append_left _ (List.mem_append_left _ (List.mem_of_getElem? (i := 16) rfl))))
  have lk8 : (Cond.fieldLink RX7 29 "FeatureAnalyzerModel" "kinds" "[I").before _ sX = true := hts _ (List.mem_cons_of_mem _ (List.mem_append_left _ (List.mem_append_left _ (List.mem_of_getElem? (i := 10) rfl))))
  have lk9 : (Cond.fieldLink RX7 32 "FeatureAnalyzerModel" "as" "[I").before _ sX = true := hts _ (List.mem_cons_of_mem _ (List.mem_append_left _ (List.mem_append_left _ (List.mem_of_getElem? (i := 11) rfl))))
  have lk10 : (Cond.fieldLink RX7 35 "FeatureAnalyzerModel" "bs" "[I").before _ sX = true := hts _ (List.mem_cons_of_mem _ (List.mem_append_left _ (List.mem_append_left _ (List.mem_of_getElem? (i := 12) rfl))))
  have lk11 : (Cond.fieldLink RX7 38 "FeatureAnalyzerModel" "areOn" "[Z").before _ sX = true := hts _ (List.mem_cons_of_mem _ (List.mem_append_left _ (List.mem_append_left _ (List.mem_of_getElem? (i := 13) rfl))))
  have lk12 : (Cond.fieldLink RX7 20 "FeatureAnalyzerModel" "costs" "[I").before _ sX = true := hts _ (List.mem_cons_of_mem _ (List.mem_append_left _ (List.mem_append_left _ (List.mem_of_getElem? (i := 6) rfl))))
  have lk13 : (Cond.fieldLink RX7 23 "FeatureAnalyzerModel" "values" "[I").before _ sX = true := hts _ (List.mem_cons_of_mem _ (List.mem_append_left _ (List.mem_append_left _ (List.mem_of_getElem? (i := 7) rfl))))
  have lk14 : (Cond.fieldLink RX7 26 "FeatureAnalyzerModel" "decisions" "[I").before _ sX = true := hts _ (List.mem_cons_of_mem _ (List.mem_append_left _ (List.mem_append_left _ (List.mem_of_getElem? (i := 8) rfl))))
  have lk15 : (Cond.fieldLink RX7 13 "FeatureAnalyzerModel" "parents" "[I").before _ sX = true := hts _ (List.mem_cons_of_mem _ (List.mem_append_left _ (List.mem_append_left _ (List.mem_of_getElem? (i := 4) rfl))))
  have lk16 : (Cond.fieldLink RX7 17 "FeatureAnalyzerModel" "relations" "[I").before _ sX = true := hts _ (List.mem_cons_of_mem _ (List.mem_append_left _ (List.mem_append_left _ (List.mem_of_getElem? (i := 5) rfl))))
  obtain ⟨hwf, hkn, hsa⟩ := id hok
  obtain ⟨hn1, hn, hpl, hpa, hrl, hco, hva, hde, hde0, hkc, hkd, hfa, hfb⟩ := id hwf
  have hpn := pow12 hn
  have hp1 := Nat.one_le_two_pow (n := sN σ)
  refine lv_aload_n hx hb dX7_digest_0 rfl (lv_at hl 0 rfl) ?_
  refine n_iconst 0 (by decide) hx hb dX7_digest_1 ?_
  refine va_put (D := G) (ci := 7) (v := .int (nI 0)) (ty := .int) (C := RX7) (T := TX7) (N := 23) hx hb hts inX7 tyX7 tyX7_ok nmX7 hown hK hP hD hS 0 rfl rfl 0 (by decide) lk0 (fun _ h9 => h9) rfl rfl rfl rfl (Nat.le_of_ble_eq_true rfl) dX7_digest_2 (fun H locs hP hD hS => ?_)
  have hP : va_P G vwCl [(a 0, .inr (7, [.int (nI 0), .int (nI (sN σ)), .ref (a 1), .ref (a 2), .ref (a 3), .ref (a 4), .ref (a 5), .int (nI (sK σ)), .ref (a 6), .ref (a 7), .ref (a 8), .ref (a 9), .int (sU σ), .int (bI (mKn x)), .ref (a 10), .ref (a 11), .ref (a 12), .ref (a 13), .int (bI (mSa x)), .int (nI (mPo x)), .int (nI (mSm x)), .ref (a 14), .ref (a 15)])), (a 1, .inl (k 0, 12, .inl (nA (sP σ)))), (a 2, .inl (k 0, 12, .inl (nA (sR σ)))), (a 3, .inl (k 0, 12, .inl (nA (sC σ)))), (a 4, .inl (k 0, 12, .inl (nA (sV σ)))), (a 5, .inl (k 0, 12, .inl (nA (sD σ)))), (a 6, .inl (k 0, 10, .inl (nA (sKd σ)))), (a 7, .inl (k 0, 10, .inl (nA (sA σ)))), (a 8, .inl (k 0, 10, .inl (nA (sB σ)))), (a 9, .inl (k 1, 10, .inl (bA (sO σ)))), (a 10, .inl (k 1, 4096, .inl (bA (mPr x)))), (a 11, .inl (k 1, 4096, .inl (bA (mCa x)))), (a 12, .inl (k 0, 4096, .inl (nA (mCs x)))), (a 13, .inl (k 0, 4096, .inl (nA (mVs x)))), (a 14, .inl (k 0, 576, .inl (nA (mSp x)))), (a 15, .inl (k 1, 576, .inl (bA (mMi x))))] H := hP
  have hD : va_D A [(a 0, .inr (7, [.int (nI 0), .int (nI (sN σ)), .ref (a 1), .ref (a 2), .ref (a 3), .ref (a 4), .ref (a 5), .int (nI (sK σ)), .ref (a 6), .ref (a 7), .ref (a 8), .ref (a 9), .int (sU σ), .int (bI (mKn x)), .ref (a 10), .ref (a 11), .ref (a 12), .ref (a 13), .int (bI (mSa x)), .int (nI (mPo x)), .int (nI (mSm x)), .ref (a 14), .ref (a 15)])), (a 1, .inl (k 0, 12, .inl (nA (sP σ)))), (a 2, .inl (k 0, 12, .inl (nA (sR σ)))), (a 3, .inl (k 0, 12, .inl (nA (sC σ)))), (a 4, .inl (k 0, 12, .inl (nA (sV σ)))), (a 5, .inl (k 0, 12, .inl (nA (sD σ)))), (a 6, .inl (k 0, 10, .inl (nA (sKd σ)))), (a 7, .inl (k 0, 10, .inl (nA (sA σ)))), (a 8, .inl (k 0, 10, .inl (nA (sB σ)))), (a 9, .inl (k 1, 10, .inl (bA (sO σ)))), (a 10, .inl (k 1, 4096, .inl (bA (mPr x)))), (a 11, .inl (k 1, 4096, .inl (bA (mCa x)))), (a 12, .inl (k 0, 4096, .inl (nA (mCs x)))), (a 13, .inl (k 0, 4096, .inl (nA (mVs x)))), (a 14, .inl (k 0, 576, .inl (nA (mSp x)))), (a 15, .inl (k 1, 576, .inl (bA (mMi x))))] := hD
  refine lv_aload_n hx hb dX7_digest_5 rfl (lv_at hl 0 rfl) ?_
  refine cV_mv (As := []) (wn := fun u : (Nat → Bool) × (Nat → Bool) × (Nat → Nat) × (Nat → Nat) => [(a 0, .inr (7, [.int (nI 0), .int (nI (sN σ)), .ref (a 1), .ref (a 2), .ref (a 3), .ref (a 4), .ref (a 5), .int (nI (sK σ)), .ref (a 6), .ref (a 7), .ref (a 8), .ref (a 9), .int (sU σ), .int (bI true), .ref (a 10), .ref (a 11), .ref (a 12), .ref (a 13), .int (bI (mSa x)), .int (nI (mPo x)), .int (nI (mSm x)), .ref (a 14), .ref (a 15)])), (a 1, .inl (k 0, 12, .inl (nA (sP σ)))), (a 2, .inl (k 0, 12, .inl (nA (sR σ)))), (a 3, .inl (k 0, 12, .inl (nA (sC σ)))), (a 4, .inl (k 0, 12, .inl (nA (sV σ)))), (a 5, .inl (k 0, 12, .inl (nA (sD σ)))), (a 6, .inl (k 0, 10, .inl (nA (sKd σ)))), (a 7, .inl (k 0, 10, .inl (nA (sA σ)))), (a 8, .inl (k 0, 10, .inl (nA (sB σ)))), (a 9, .inl (k 1, 10, .inl (bA (sO σ)))), (a 10, .inl (k 1, 4096, .inl (bA u.1))), (a 11, .inl (k 1, 4096, .inl (bA u.2.1))), (a 12, .inl (k 0, 4096, .inl (nA u.2.2.1))), (a 13, .inl (k 0, 4096, .inl (nA u.2.2.2))), (a 14, .inl (k 0, 576, .inl (nA (mSp x)))), (a 15, .inl (k 1, 576, .inl (bA (mMi x))))]) S hP hK hN hD hS hA (m_X7_know l G k _ a σ _ _ _ _ _ _ _ _ _ _ _ (by assumption) (by assumption)) gX7_digest_X7_know rfl rfl rfl hdV_X7_know rfl rfl [0, 1, 2, 3, 4, 5, 6, 7, 8, 9, 10, 11, 12, 13, 14, 15] [] [0, 1, 2, 3, 4, 5, 6, 7, 8, 9, 10, 11, 12, 13, 14, 15] rfl rfl rfl rfl rfl (by decide) (fun _ => rfl) (fun _ => rfl) rfl 7 0 rfl rfl rfl rfl hl.1 rfl rfl ⟨Nat.le_of_ble_eq_true rfl, Nat.le_of_ble_eq_true rfl⟩ dX7_digest_6 (fun u H locs hw1 hP hD hS => ?_)
  obtain ⟨pr91, ca91, cs91, vs91⟩ := u
  try dsimp only at hw1
  have hk1 := hw1
  have hP : va_P G vwCl [(a 0, .inr (7, [.int (nI 0), .int (nI (sN σ)), .ref (a 1), .ref (a 2), .ref (a 3), .ref (a 4), .ref (a 5), .int (nI (sK σ)), .ref (a 6), .ref (a 7), .ref (a 8), .ref (a 9), .int (sU σ), .int (bI true), .ref (a 10), .ref (a 11), .ref (a 12), .ref (a 13), .int (bI (mSa x)), .int (nI (mPo x)), .int (nI (mSm x)), .ref (a 14), .ref (a 15)])), (a 1, .inl (k 0, 12, .inl (nA (sP σ)))), (a 2, .inl (k 0, 12, .inl (nA (sR σ)))), (a 3, .inl (k 0, 12, .inl (nA (sC σ)))), (a 4, .inl (k 0, 12, .inl (nA (sV σ)))), (a 5, .inl (k 0, 12, .inl (nA (sD σ)))), (a 6, .inl (k 0, 10, .inl (nA (sKd σ)))), (a 7, .inl (k 0, 10, .inl (nA (sA σ)))), (a 8, .inl (k 0, 10, .inl (nA (sB σ)))), (a 9, .inl (k 1, 10, .inl (bA (sO σ)))), (a 10, .inl (k 1, 4096, .inl (bA pr91))), (a 11, .inl (k 1, 4096, .inl (bA ca91))), (a 12, .inl (k 0, 4096, .inl (nA cs91))), (a 13, .inl (k 0, 4096, .inl (nA vs91))), (a 14, .inl (k 0, 576, .inl (nA (mSp x)))), (a 15, .inl (k 1, 576, .inl (bA (mMi x))))] H := hP
  have hD : va_D A [(a 0, .inr (7, [.int (nI 0), .int (nI (sN σ)), .ref (a 1), .ref (a 2), .ref (a 3), .ref (a 4), .ref (a 5), .int (nI (sK σ)), .ref (a 6), .ref (a 7), .ref (a 8), .ref (a 9), .int (sU σ), .int (bI true), .ref (a 10), .ref (a 11), .ref (a 12), .ref (a 13), .int (bI (mSa x)), .int (nI (mPo x)), .int (nI (mSm x)), .ref (a 14), .ref (a 15)])), (a 1, .inl (k 0, 12, .inl (nA (sP σ)))), (a 2, .inl (k 0, 12, .inl (nA (sR σ)))), (a 3, .inl (k 0, 12, .inl (nA (sC σ)))), (a 4, .inl (k 0, 12, .inl (nA (sV σ)))), (a 5, .inl (k 0, 12, .inl (nA (sD σ)))), (a 6, .inl (k 0, 10, .inl (nA (sKd σ)))), (a 7, .inl (k 0, 10, .inl (nA (sA σ)))), (a 8, .inl (k 0, 10, .inl (nA (sB σ)))), (a 9, .inl (k 1, 10, .inl (bA (sO σ)))), (a 10, .inl (k 1, 4096, .inl (bA pr91))), (a 11, .inl (k 1, 4096, .inl (bA ca91))), (a 12, .inl (k 0, 4096, .inl (nA cs91))), (a 13, .inl (k 0, 4096, .inl (nA vs91))), (a 14, .inl (k 0, 576, .inl (nA (mSp x)))), (a 15, .inl (k 1, 576, .inl (bA (mMi x))))] := hD
  refine lv_ldc2 hx hb hown lk1 dX7_digest_9 ?_
  refine lv_aload_n hx hb dX7_digest_12 rfl (lv_at hl 0 rfl) ?_
  refine va_get (D := G) (ci := 7) (v := .int (nI (sN σ))) (C := RX7) (T := TX7) (N := 23) hx hb hts inX7 hown hK hP 0 rfl rfl 1 (by decide) lk2 (fun _ h9 => h9) rfl dX7_digest_13 ?_
  refine lv_i2l (v := ((nI (sN σ))).toInt64) hx hb dX7_digest_16 rfl ?_
  refine lv_ladd hx hb dX7_digest_17 ?_
  refine lv_lstore_n (lv' := [(1, .long (4309 + (((nI (sN σ))).toInt64))), (0, .ref (a 0))]) hx hb dX7_digest_18 rfl hl (by decide) rfl (fun ls hl => ?_)
  refine n_iconst 1 (by decide) hx hb dX7_digest_19 ?_
  refine lv_istore_n (lv' := [(3, .int (nI 1)), (1, .long (4309 + (((nI (sN σ))).toInt64))), (0, .ref (a 0))]) hx hb dX7_digest_20 rfl hl (by decide) rfl (fun ls hl => ?_)
  have L21 : ∀ (NN : Nat) (d9 : Int64) (i : Nat), (sN σ - i) < NN → (1 ≤ i) → (i ≤ sN σ) → (d9 = dgF σ (f31 139 (nI (sN σ))) i) → ∀ (H : Heap) (locs : List Loc), va_P G vwCl [(a 0, .inr (7, [.int (nI 0), .int (nI (sN σ)), .ref (a 1), .ref (a 2), .ref (a 3), .ref (a 4), .ref (a 5), .int (nI (sK σ)), .ref (a 6), .ref (a 7), .ref (a 8), .ref (a 9), .int (sU σ), .int (bI true), .ref (a 10), .ref (a 11), .ref (a 12), .ref (a 13), .int (bI (mSa x)), .int (nI (mPo x)), .int (nI (mSm x)), .ref (a 14), .ref (a 15)])), (a 1, .inl (k 0, 12, .inl (nA (sP σ)))), (a 2, .inl (k 0, 12, .inl (nA (sR σ)))), (a 3, .inl (k 0, 12, .inl (nA (sC σ)))), (a 4, .inl (k 0, 12, .inl (nA (sV σ)))), (a 5, .inl (k 0, 12, .inl (nA (sD σ)))), (a 6, .inl (k 0, 10, .inl (nA (sKd σ)))), (a 7, .inl (k 0, 10, .inl (nA (sA σ)))), (a 8, .inl (k 0, 10, .inl (nA (sB σ)))), (a 9, .inl (k 1, 10, .inl (bA (sO σ)))), (a 10, .inl (k 1, 4096, .inl (bA pr91))), (a 11, .inl (k 1, 4096, .inl (bA ca91))), (a 12, .inl (k 0, 4096, .inl (nA cs91))), (a 13, .inl (k 0, 4096, .inl (nA vs91))), (a 14, .inl (k 0, 576, .inl (nA (mSp x)))), (a 15, .inl (k 1, 576, .inl (bA (mMi x))))] H → va_D A [(a 0, .inr (7, [.int (nI 0), .int (nI (sN σ)), .ref (a 1), .ref (a 2), .ref (a 3), .ref (a 4), .ref (a 5), .int (nI (sK σ)), .ref (a 6), .ref (a 7), .ref (a 8), .ref (a 9), .int (sU σ), .int (bI true), .ref (a 10), .ref (a 11), .ref (a 12), .ref (a 13), .int (bI (mSa x)), .int (nI (mPo x)), .int (nI (mSm x)), .ref (a 14), .ref (a 15)])), (a 1, .inl (k 0, 12, .inl (nA (sP σ)))), (a 2, .inl (k 0, 12, .inl (nA (sR σ)))), (a 3, .inl (k 0, 12, .inl (nA (sC σ)))), (a 4, .inl (k 0, 12, .inl (nA (sV σ)))), (a 5, .inl (k 0, 12, .inl (nA (sD σ)))), (a 6, .inl (k 0, 10, .inl (nA (sKd σ)))), (a 7, .inl (k 0, 10, .inl (nA (sA σ)))), (a 8, .inl (k 0, 10, .inl (nA (sB σ)))), (a 9, .inl (k 1, 10, .inl (bA (sO σ)))), (a 10, .inl (k 1, 4096, .inl (bA pr91))), (a 11, .inl (k 1, 4096, .inl (bA ca91))), (a 12, .inl (k 0, 4096, .inl (nA cs91))), (a 13, .inl (k 0, 4096, .inl (nA vs91))), (a 14, .inl (k 0, 576, .inl (nA (mSp x)))), (a 15, .inl (k 1, 576, .inl (bA (mMi x))))] → va_S A sX.heap H locs → ∀ ls : Array Slot, lv_has ls 4 [(0, .ref (a 0)), (1, .long d9), (3, .int (nI i))] → W pX l eX ({ frames := 4, cells := 0, slots := 0, locals := 91 } : Room) sX mX ([.ref (a 0)] : List Value).toArray bX meX cX H locs 0 0 (MQ bX (va_Ql (fun (rX : Int64) (u : (Mx)) => ∃ v : Int64, rX = v ∧ (0 = 0 → v = r_dig σ) ∧ MOK (σ) u ∧ mT u = 0) (Bm G k A (fun u : (Mx) => moW k a (σ) u)) A) ([.ref (a 0)] : List Value).toArray sX 0 0 A) (F0 mX 21 ls []) := by
    intro NN
    induction NN with
    | zero => intro d9 i hm9; exact absurd hm9 (Nat.not_lt_zero _)
    | succ NN ih21 =>
      intro d9 i hm9 hi1 hi ed H locs hP hD hS ls hl
      refine lv_iload_n hx hb dX7_digest_21 rfl (lv_at hl 2 rfl) ?_
      refine lv_aload_n hx hb dX7_digest_22 rfl (lv_at hl 0 rfl) ?_
      refine va_get (D := G) (ci := 7) (v := .int (nI (sN σ))) (C := RX7) (T := TX7) (N := 23) hx hb hts inX7 hown hK hP 0 rfl rfl 1 (by decide) lk2 (fun _ h9 => h9) rfl dX7_digest_23 ?_
      refine n_icmp_ge (tgt := 61) (by omega) (by omega) hx hb dX7_digest_26 (by decide) (fun q26 => ?_) (fun q26 => ?_)
      · skip
        refine n_iconst 0 (by decide) hx hb dX7_digest_61 ?_
        refine lv_istore_n (lv' := [(3, .int (nI 0)), (0, .ref (a 0)), (1, .long d9)]) hx hb dX7_digest_62 rfl hl (by decide) rfl (fun ls hl => ?_)
        have L63 : ∀ (NN : Nat) (d9 : Int64) (i : Nat), (sN σ - i) < NN → (i ≤ sN σ) → (d9 = dgW σ (dgF σ (f31 139 (nI (sN σ))) (sN σ)) i) → ∀ (H : Heap) (locs : List Loc), va_P G vwCl [(a 0, .inr (7, [.int (nI 0), .int (nI (sN σ)), .ref (a 1), .ref (a 2), .ref (a 3), .ref (a 4), .ref (a 5), .int (nI (sK σ)), .ref (a 6), .ref (a 7), .ref (a 8), .ref (a 9), .int (sU σ), .int (bI true), .ref (a 10), .ref (a 11), .ref (a 12), .ref (a 13), .int (bI (mSa x)), .int (nI (mPo x)), .int (nI (mSm x)), .ref (a 14), .ref (a 15)])), (a 1, .inl (k 0, 12, .inl (nA (sP σ)))), (a 2, .inl (k 0, 12, .inl (nA (sR σ)))), (a 3, .inl (k 0, 12, .inl (nA (sC σ)))), (a 4, .inl (k 0, 12, .inl (nA (sV σ)))), (a 5, .inl (k 0, 12, .inl (nA (sD σ)))), (a 6, .inl (k 0, 10, .inl (nA (sKd σ)))), (a 7, .inl (k 0, 10, .inl (nA (sA σ)))), (a 8, .inl (k 0, 10, .inl (nA (sB σ)))), (a 9, .inl (k 1, 10, .inl (bA (sO σ)))), (a 10, .inl (k 1, 4096, .inl (bA pr91))), (a 11, .inl (k 1, 4096, .inl (bA ca91))), (a 12, .inl (k 0, 4096, .inl (nA cs91))), (a 13, .inl (k 0, 4096, .inl (nA vs91))), (a 14, .inl (k 0, 576, .inl (nA (mSp x)))), (a 15, .inl (k 1, 576, .inl (bA (mMi x))))] H → va_D A [(a 0, .inr (7, [.int (nI 0), .int (nI (sN σ)), .ref (a 1), .ref (a 2), .ref (a 3), .ref (a 4), .ref (a 5), .int (nI (sK σ)), .ref (a 6), .ref (a 7), .ref (a 8), .ref (a 9), .int (sU σ), .int (bI true), .ref (a 10), .ref (a 11), .ref (a 12), .ref (a 13), .int (bI (mSa x)), .int (nI (mPo x)), .int (nI (mSm x)), .ref (a 14), .ref (a 15)])), (a 1, .inl (k 0, 12, .inl (nA (sP σ)))), (a 2, .inl (k 0, 12, .inl (nA (sR σ)))), (a 3, .inl (k 0, 12, .inl (nA (sC σ)))), (a 4, .inl (k 0, 12, .inl (nA (sV σ)))), (a 5, .inl (k 0, 12, .inl (nA (sD σ)))), (a 6, .inl (k 0, 10, .inl (nA (sKd σ)))), (a 7, .inl (k 0, 10, .inl (nA (sA σ)))), (a 8, .inl (k 0, 10, .inl (nA (sB σ)))), (a 9, .inl (k 1, 10, .inl (bA (sO σ)))), (a 10, .inl (k 1, 4096, .inl (bA pr91))), (a 11, .inl (k 1, 4096, .inl (bA ca91))), (a 12, .inl (k 0, 4096, .inl (nA cs91))), (a 13, .inl (k 0, 4096, .inl (nA vs91))), (a 14, .inl (k 0, 576, .inl (nA (mSp x)))), (a 15, .inl (k 1, 576, .inl (bA (mMi x))))] → va_S A sX.heap H locs → ∀ ls : Array Slot, lv_has ls 4 [(0, .ref (a 0)), (1, .long d9), (3, .int (nI i))] → W pX l eX ({ frames := 4, cells := 0, slots := 0, locals := 91 } : Room) sX mX ([.ref (a 0)] : List Value).toArray bX meX cX H locs 0 0 (MQ bX (va_Ql (fun (rX : Int64) (u : (Mx)) => ∃ v : Int64, rX = v ∧ (0 = 0 → v = r_dig σ) ∧ MOK (σ) u ∧ mT u = 0) (Bm G k A (fun u : (Mx) => moW k a (σ) u)) A) ([.ref (a 0)] : List Value).toArray sX 0 0 A) (F0 mX 63 ls []) := by
          intro NN
          induction NN with
          | zero => intro d9 i hm9; exact absurd hm9 (Nat.not_lt_zero _)
          | succ NN ih63 =>
            intro d9 i hm9 hi ed H locs hP hD hS ls hl
            refine lv_iload_n hx hb dX7_digest_63 rfl (lv_at hl 2 rfl) ?_
            refine lv_aload_n hx hb dX7_digest_64 rfl (lv_at hl 0 rfl) ?_
            refine va_get (D := G) (ci := 7) (v := .int (nI (sN σ))) (C := RX7) (T := TX7) (N := 23) hx hb hts inX7 hown hK hP 0 rfl rfl 1 (by decide) lk2 (fun _ h9 => h9) rfl dX7_digest_65 ?_
            refine n_icmp_ge (tgt := 115) (by omega) (by omega) hx hb dX7_digest_68 (by decide) (fun q68 => ?_) (fun q68 => ?_)
            · skip
              refine lv_lload_n hx hb dX7_digest_115 rfl (lv_at hl 1 rfl) ?_
              refine lv_ldc2 hx hb hown lk3 dX7_digest_116 ?_
              refine lv_lmul hx hb dX7_digest_119 ?_
              refine lv_aload_n hx hb dX7_digest_120 rfl (lv_at hl 0 rfl) ?_
              refine va_get (D := G) (ci := 7) (v := .int (nI (sK σ))) (C := RX7) (T := TX7) (N := 23) hx hb hts inX7 hown hK hP 0 rfl rfl 7 (by decide) lk4 (fun _ h9 => h9) rfl dX7_digest_121 ?_
              refine lv_i2l (v := ((nI (sK σ))).toInt64) hx hb dX7_digest_124 rfl ?_
              refine lv_ladd hx hb dX7_digest_125 ?_
              refine lv_lstore_n (lv' := [(1, .long ((d9 * 31) + (((nI (sK σ))).toInt64))), (0, .ref (a 0)), (3, .int (nI i))]) hx hb dX7_digest_126 rfl hl (by decide) rfl (fun ls hl => ?_)
              refine n_iconst 0 (by decide) hx hb dX7_digest_127 ?_
              refine lv_istore_n (lv' := [(3, .int (nI 0)), (1, .long ((d9 * 31) + (((nI (sK σ))).toInt64))), (0, .ref (a 0))]) hx hb dX7_digest_128 rfl hl (by decide) rfl (fun ls hl => ?_)
              have L129 : ∀ (NN : Nat) (d9 : Int64) (i : Nat), (sK σ - i) < NN → (i ≤ sK σ) → (d9 = dgC σ (f31 (dgW σ (dgF σ (f31 139 (nI (sN σ))) (sN σ)) (sN σ)) (nI (sK σ))) i) → ∀ (H : Heap) (locs : List Loc), va_P G vwCl [(a 0, .inr (7, [.int (nI 0), .int (nI (sN σ)), .ref (a 1), .ref (a 2), .ref (a 3), .ref (a 4), .ref (a 5), .int (nI (sK σ)), .ref (a 6), .ref (a 7), .ref (a 8), .ref (a 9), .int (sU σ), .int (bI true), .ref (a 10), .ref (a 11), .ref (a 12), .ref (a 13), .int (bI (mSa x)), .int (nI (mPo x)), .int (nI (mSm x)), .ref (a 14), .ref (a 15)])), (a 1, .inl (k 0, 12, .inl (nA (sP σ)))), (a 2, .inl (k 0, 12, .inl (nA (sR σ)))), (a 3, .inl (k 0, 12, .inl (nA (sC σ)))), (a 4, .inl (k 0, 12, .inl (nA (sV σ)))), (a 5, .inl (k 0, 12, .inl (nA (sD σ)))), (a 6, .inl (k 0, 10, .inl (nA (sKd σ)))), (a 7, .inl (k 0, 10, .inl (nA (sA σ)))), (a 8, .inl (k 0, 10, .inl (nA (sB σ)))), (a 9, .inl (k 1, 10, .inl (bA (sO σ)))), (a 10, .inl (k 1, 4096, .inl (bA pr91))), (a 11, .inl (k 1, 4096, .inl (bA ca91))), (a 12, .inl (k 0, 4096, .inl (nA cs91))), (a 13, .inl (k 0, 4096, .inl (nA vs91))), (a 14, .inl (k 0, 576, .inl (nA (mSp x)))), (a 15, .inl (k 1, 576, .inl (bA (mMi x))))] H → va_D A [(a 0, .inr (7, [.int (nI 0), .int (nI (sN σ)), .ref (a 1), .ref (a 2), .ref (a 3), .ref (a 4), .ref (a 5), .int (nI (sK σ)), .ref (a 6), .ref (a 7), .ref (a 8), .ref (a 9), .int (sU σ), .int (bI true), .ref (a 10), .ref (a 11), .ref (a 12), .ref (a 13), .int (bI (mSa x)), .int (nI (mPo x)), .int (nI (mSm x)), .ref (a 14), .ref (a 15)])), (a 1, .inl (k 0, 12, .inl (nA (sP σ)))), (a 2, .inl (k 0, 12, .inl (nA (sR σ)))), (a 3, .inl (k 0, 12, .inl (nA (sC σ)))), (a 4, .inl (k 0, 12, .inl (nA (sV σ)))), (a 5, .inl (k 0, 12, .inl (nA (sD σ)))), (a 6, .inl (k 0, 10, .inl (nA (sKd σ)))), (a 7, .inl (k 0, 10, .inl (nA (sA σ)))), (a 8, .inl (k 0, 10, .inl (nA (sB σ)))), (a 9, .inl (k 1, 10, .inl (bA (sO σ)))), (a 10, .inl (k 1, 4096, .inl (bA pr91))), (a 11, .inl (k 1, 4096, .inl (bA ca91))), (a 12, .inl (k 0, 4096, .inl (nA cs91))), (a 13, .inl (k 0, 4096, .inl (nA vs91))), (a 14, .inl (k 0, 576, .inl (nA (mSp x)))), (a 15, .inl (k 1, 576, .inl (bA (mMi x))))] → va_S A sX.heap H locs → ∀ ls : Array Slot, lv_has ls 4 [(0, .ref (a 0)), (1, .long d9), (3, .int (nI i))] → W pX l eX ({ frames := 4, cells := 0, slots := 0, locals := 91 } : Room) sX mX ([.ref (a 0)] : List Value).toArray bX meX cX H locs 0 0 (MQ bX (va_Ql (fun (rX : Int64) (u : (Mx)) => ∃ v : Int64, rX = v ∧ (0 = 0 → v = r_dig σ) ∧ MOK (σ) u ∧ mT u = 0) (Bm G k A (fun u : (Mx) => moW k a (σ) u)) A) ([.ref (a 0)] : List Value).toArray sX 0 0 A) (F0 mX 129 ls []) := by
                intro NN
                induction NN with
                | zero => intro d9 i hm9; exact absurd hm9 (Nat.not_lt_zero _)
                | succ NN ih129 =>
                  intro d9 i hm9 hi ed H locs hP hD hS ls hl
                  refine lv_iload_n hx hb dX7_digest_129 rfl (lv_at hl 2 rfl) ?_
                  refine lv_aload_n hx hb dX7_digest_130 rfl (lv_at hl 0 rfl) ?_
                  refine va_get (D := G) (ci := 7) (v := .int (nI (sK σ))) (C := RX7) (T := TX7) (N := 23) hx hb hts inX7 hown hK hP 0 rfl rfl 7 (by decide) lk4 (fun _ h9 => h9) rfl dX7_digest_131 ?_
                  refine n_icmp_ge (tgt := 200) (by omega) (by omega) hx hb dX7_digest_134 (by decide) (fun q134 => ?_) (fun q134 => ?_)
                  · skip
                    refine lv_lload_n hx hb dX7_digest_200 rfl (lv_at hl 1 rfl) ?_
                    refine lv_ldc2 hx hb hown lk3 dX7_digest_201 ?_
                    refine lv_lmul hx hb dX7_digest_204 ?_
                    refine lv_aload_n hx hb dX7_digest_205 rfl (lv_at hl 0 rfl) ?_
                    refine va_get (D := G) (ci := 7) (v := .int (sU σ)) (C := RX7) (T := TX7) (N := 23) hx hb hts inX7 hown hK hP 0 rfl rfl 12 (by decide) lk5 (fun _ h9 => h9) rfl dX7_digest_206 ?_
                    refine lv_i2l (v := ((sU σ)).toInt64) hx hb dX7_digest_209 rfl ?_
                    refine lv_ladd hx hb dX7_digest_210 ?_
                    refine lv_ldc2 hx hb hown lk3 dX7_digest_211 ?_
                    refine lv_lmul hx hb dX7_digest_214 ?_
                    refine lv_aload_n hx hb dX7_digest_215 rfl (lv_at hl 0 rfl) ?_
                    refine lv_aload_n hx hb dX7_digest_216 rfl (lv_at hl 0 rfl) ?_
                    refine va_get (D := G) (ci := 7) (v := .ref (a 10)) (C := RX7) (T := TX7) (N := 23) hx hb hts inX7 hown hK hP 0 rfl rfl 14 (by decide) lk6 (fun _ h9 => h9) rfl dX7_digest_217 ?_
                    refine cV_i (As := [.ref (a 10)]) S hP hK hN (m_X7_count l G k _ _ _ _ _ _ _ _ _ _ _ _ _ _ _ _ _ _ _ _ _ _ _ _ _ _ (by omega)) gX7_digest_X7_count rfl rfl rfl hdV_X7_count rfl rfl [0, 10] rfl 7 0 rfl rfl rfl rfl hl.1 rfl rfl ⟨Nat.le_of_ble_eq_true rfl, Nat.le_of_ble_eq_true rfl⟩ dX7_digest_220 (fun rX hr2 => ?_)
                    subst hr2
                    refine lv_i2l (v := ((nI (fb_ct pr91 (2 ^ (sN σ))))).toInt64) hx hb dX7_digest_223 rfl ?_
                    refine lv_ladd hx hb dX7_digest_224 ?_
                    refine lv_ldc2 hx hb hown lk3 dX7_digest_225 ?_
                    refine lv_lmul hx hb dX7_digest_228 ?_
                    refine lv_aload_n hx hb dX7_digest_229 rfl (lv_at hl 0 rfl) ?_
                    refine lv_aload_n hx hb dX7_digest_230 rfl (lv_at hl 0 rfl) ?_
                    refine va_get (D := G) (ci := 7) (v := .ref (a 11)) (C := RX7) (T := TX7) (N := 23) hx hb hts inX7 hown hK hP 0 rfl rfl 15 (by decide) lk7 (fun _ h9 => h9) rfl dX7_digest_231 ?_
                    refine cV_i (As := [.ref (a 11)]) S hP hK hN (m_X7_count l G k _ _ _ _ _ _ _ _ _ _ _ _ _ _ _ _ _ _ _ _ _ _ _ _ _ _ (by omega)) gX7_digest_X7_count rfl rfl rfl hdV_X7_count rfl rfl [0, 11] rfl 7 0 rfl rfl rfl rfl hl.1 rfl rfl ⟨Nat.le_of_ble_eq_true rfl, Nat.le_of_ble_eq_true rfl⟩ dX7_digest_234 (fun rX hr3 => ?_)
                    subst hr3
                    refine lv_i2l (v := ((nI (fb_ct ca91 (2 ^ (sN σ))))).toInt64) hx hb dX7_digest_237 rfl ?_
                    refine lv_ladd hx hb dX7_digest_238 ?_
                    refine lv_lstore_n (lv' := [(1, .long ((((((d9 * 31) + (((sU σ)).toInt64)) * 31) + (((nI (fb_ct pr91 (2 ^ (sN σ))))).toInt64)) * 31) + (((nI (fb_ct ca91 (2 ^ (sN σ))))).toInt64))), (0, .ref (a 0)), (3, .int (nI i))]) hx hb dX7_digest_239 rfl hl (by decide) rfl (fun ls hl => ?_)
                    refine n_iconst 0 (by decide) hx hb dX7_digest_240 ?_
                    refine lv_istore_n (lv' := [(3, .int (nI 0)), (1, .long ((((((d9 * 31) + (((sU σ)).toInt64)) * 31) + (((nI (fb_ct pr91 (2 ^ (sN σ))))).toInt64)) * 31) + (((nI (fb_ct ca91 (2 ^ (sN σ))))).toInt64))), (0, .ref (a 0))]) hx hb dX7_digest_241 rfl hl (by decide) rfl (fun ls hl => ?_)
                    have L242 : ∀ (NN : Nat) (d9 : Int64) (i : Nat), (2 ^ sN σ - i) < NN → (i ≤ 2 ^ sN σ) → (d9 = dgM (candB σ) (f31 (f31 (f31 (dgC σ (f31 (dgW σ (dgF σ (f31 139 (nI (sN σ))) (sN σ)) (sN σ)) (nI (sK σ))) (sK σ)) (sU σ)) (nI (cntP σ))) (nI (cntC σ))) i) → ∀ (H : Heap) (locs : List Loc), va_P G vwCl [(a 0, .inr (7, [.int (nI 0), .int (nI (sN σ)), .ref (a 1), .ref (a 2), .ref (a 3), .ref (a 4), .ref (a 5), .int (nI (sK σ)), .ref (a 6), .ref (a 7), .ref (a 8), .ref (a 9), .int (sU σ), .int (bI true), .ref (a 10), .ref (a 11), .ref (a 12), .ref (a 13), .int (bI (mSa x)), .int (nI (mPo x)), .int (nI (mSm x)), .ref (a 14), .ref (a 15)])), (a 1, .inl (k 0, 12, .inl (nA (sP σ)))), (a 2, .inl (k 0, 12, .inl (nA (sR σ)))), (a 3, .inl (k 0, 12, .inl (nA (sC σ)))), (a 4, .inl (k 0, 12, .inl (nA (sV σ)))), (a 5, .inl (k 0, 12, .inl (nA (sD σ)))), (a 6, .inl (k 0, 10, .inl (nA (sKd σ)))), (a 7, .inl (k 0, 10, .inl (nA (sA σ)))), (a 8, .inl (k 0, 10, .inl (nA (sB σ)))), (a 9, .inl (k 1, 10, .inl (bA (sO σ)))), (a 10, .inl (k 1, 4096, .inl (bA pr91))), (a 11, .inl (k 1, 4096, .inl (bA ca91))), (a 12, .inl (k 0, 4096, .inl (nA cs91))), (a 13, .inl (k 0, 4096, .inl (nA vs91))), (a 14, .inl (k 0, 576, .inl (nA (mSp x)))), (a 15, .inl (k 1, 576, .inl (bA (mMi x))))] H → va_D A [(a 0, .inr (7, [.int (nI 0), .int (nI (sN σ)), .ref (a 1), .ref (a 2), .ref (a 3), .ref (a 4), .ref (a 5), .int (nI (sK σ)), .ref (a 6), .ref (a 7), .ref (a 8), .ref (a 9), .int (sU σ), .int (bI true), .ref (a 10), .ref (a 11), .ref (a 12), .ref (a 13), .int (bI (mSa x)), .int (nI (mPo x)), .int (nI (mSm x)), .ref (a 14), .ref (a 15)])), (a 1, .inl (k 0, 12, .inl (nA (sP σ)))), (a 2, .inl (k 0, 12, .inl (nA (sR σ)))), (a 3, .inl (k 0, 12, .inl (nA (sC σ)))), (a 4, .inl (k 0, 12, .inl (nA (sV σ)))), (a 5, .inl (k 0, 12, .inl (nA (sD σ)))), (a 6, .inl (k 0, 10, .inl (nA (sKd σ)))), (a 7, .inl (k 0, 10, .inl (nA (sA σ)))), (a 8, .inl (k 0, 10, .inl (nA (sB σ)))), (a 9, .inl (k 1, 10, .inl (bA (sO σ)))), (a 10, .inl (k 1, 4096, .inl (bA pr91))), (a 11, .inl (k 1, 4096, .inl (bA ca91))), (a 12, .inl (k 0, 4096, .inl (nA cs91))), (a 13, .inl (k 0, 4096, .inl (nA vs91))), (a 14, .inl (k 0, 576, .inl (nA (mSp x)))), (a 15, .inl (k 1, 576, .inl (bA (mMi x))))] → va_S A sX.heap H locs → ∀ ls : Array Slot, lv_has ls 4 [(0, .ref (a 0)), (1, .long d9), (3, .int (nI i))] → W pX l eX ({ frames := 4, cells := 0, slots := 0, locals := 91 } : Room) sX mX ([.ref (a 0)] : List Value).toArray bX meX cX H locs 0 0 (MQ bX (va_Ql (fun (rX : Int64) (u : (Mx)) => ∃ v : Int64, rX = v ∧ (0 = 0 → v = r_dig σ) ∧ MOK (σ) u ∧ mT u = 0) (Bm G k A (fun u : (Mx) => moW k a (σ) u)) A) ([.ref (a 0)] : List Value).toArray sX 0 0 A) (F0 mX 242 ls []) := by
                      intro NN
                      induction NN with
                      | zero => intro d9 i hm9; exact absurd hm9 (Nat.not_lt_zero _)
                      | succ NN ih242 =>
                        intro d9 i hm9 hi ed H locs hP hD hS ls hl
                        refine lv_iload_n hx hb dX7_digest_242 rfl (lv_at hl 2 rfl) ?_
                        refine n_iconst 1 (by decide) hx hb dX7_digest_243 ?_
                        refine lv_aload_n hx hb dX7_digest_244 rfl (lv_at hl 0 rfl) ?_
                        refine va_get (D := G) (ci := 7) (v := .int (nI (sN σ))) (C := RX7) (T := TX7) (N := 23) hx hb hts inX7 hown hK hP 0 rfl rfl 1 (by decide) lk2 (fun _ h9 => h9) rfl dX7_digest_245 ?_
                        refine n_ishl1 (by omega) hx hb dX7_digest_248 ?_
                        refine n_icmp_ge (tgt := 276) (by omega) (by omega) hx hb dX7_digest_249 (by decide) (fun q249 => ?_) (fun q249 => ?_)
                        · skip
                          refine lv_lload_n hx hb dX7_digest_276 rfl (lv_at hl 1 rfl) ?_
                          exact e_mutL (u := (0, true, pr91, ca91, cs91, vs91, mSa x, mPo x, mSm x, mSp x, mMi x)) hx hb hr hlk hS hP hK hD (by exact ⟨_, rfl, fun _ => (by rw [ed, show i = M2 σ by show i = 2 ^ sN σ; omega]; rfl), ⟨hwf, fun _ => hk1, hsa⟩, rfl⟩) dX7_digest_277
                        · skip
                          refine lv_aload_n hx hb dX7_digest_252 rfl (lv_at hl 0 rfl) ?_
                          refine va_get (D := G) (ci := 7) (v := .ref (a 11)) (C := RX7) (T := TX7) (N := 23) hx hb hts inX7 hown hK hP 0 rfl rfl 15 (by decide) lk7 (fun _ h9 => h9) rfl dX7_digest_253 ?_
                          refine lv_iload_n hx hb dX7_digest_256 rfl (lv_at hl 2 rfl) ?_
                          refine b_bald hx hb hK hP 11 rfl (by omega) (by first | decide | omega) dX7_digest_257 ?_
                          refine b_if_eq (tgt := 270) hx hb dX7_digest_258 (by decide) (fun q258 => ?_) (fun q258 => ?_)
                          · skip
                            refine n_iinc (lv' := [(3, .int (nI (i + 1))), (0, .ref (a 0)), (1, .long d9)]) (k := 2) 1 hx hb dX7_digest_270 hl rfl (by decide) (by decide) rfl (fun ls hl => ?_)
                            refine lv_goto (tgt := 242) hx hb dX7_digest_273 (by decide) ?_
                            exact ih242 (d9) (i + 1) (by omega) (by omega) (by rw [ed]; first | exact (dgM_t (by rw [← (hk1 i (by omega)).2.1]; exact q258)).symm | exact (dgM_f (by rw [← (hk1 i (by omega)).2.1]; exact q258)).symm) _ _ hP hD hS _ (lv_sub hl [1, 2, 0] rfl)
                          · skip
                            refine lv_lload_n hx hb dX7_digest_261 rfl (lv_at hl 1 rfl) ?_
                            refine lv_ldc2 hx hb hown lk3 dX7_digest_262 ?_
                            refine lv_lmul hx hb dX7_digest_265 ?_
                            refine lv_iload_n hx hb dX7_digest_266 rfl (lv_at hl 2 rfl) ?_
                            refine lv_i2l (v := ((nI i)).toInt64) hx hb dX7_digest_267 rfl ?_
                            refine lv_ladd hx hb dX7_digest_268 ?_
                            refine lv_lstore_n (lv' := [(1, .long ((d9 * 31) + (((nI i)).toInt64))), (0, .ref (a 0)), (3, .int (nI i))]) hx hb dX7_digest_269 rfl hl (by decide) rfl (fun ls hl => ?_)
                            refine n_iinc (lv' := [(3, .int (nI (i + 1))), (1, .long ((d9 * 31) + (((nI i)).toInt64))), (0, .ref (a 0))]) (k := 2) 1 hx hb dX7_digest_270 hl rfl (by decide) (by decide) rfl (fun ls hl => ?_)
                            refine lv_goto (tgt := 242) hx hb dX7_digest_273 (by decide) ?_
                            exact ih242 ((d9 * 31) + (((nI i)).toInt64)) (i + 1) (by omega) (by omega) (by rw [ed]; first | exact (dgM_t (by rw [← (hk1 i (by omega)).2.1]; exact q258)).symm | exact (dgM_f (by rw [← (hk1 i (by omega)).2.1]; exact q258)).symm) _ _ hP hD hS _ (lv_sub hl [2, 1, 0] rfl)
                    exact L242 _ ((((((d9 * 31) + (((sU σ)).toInt64)) * 31) + (((nI (fb_ct pr91 (2 ^ (sN σ))))).toInt64)) * 31) + (((nI (fb_ct ca91 (2 ^ (sN σ))))).toInt64)) (0) (Nat.lt_succ_self _) (by omega) (by rw [ed, show i = sK σ by omega, kn_cp hk1, kn_cc hk1]; rfl) _ _ hP hD hS _ (lv_sub hl [2, 1, 0] rfl)
                  · skip
                    refine lv_lload_n hx hb dX7_digest_137 rfl (lv_at hl 1 rfl) ?_
                    refine lv_ldc2 hx hb hown lk3 dX7_digest_138 ?_
                    refine lv_lmul hx hb dX7_digest_141 ?_
                    refine lv_aload_n hx hb dX7_digest_142 rfl (lv_at hl 0 rfl) ?_
                    refine va_get (D := G) (ci := 7) (v := .ref (a 6)) (C := RX7) (T := TX7) (N := 23) hx hb hts inX7 hown hK hP 0 rfl rfl 8 (by decide) lk8 (fun _ h9 => h9) rfl dX7_digest_143 ?_
                    refine lv_iload_n hx hb dX7_digest_146 rfl (lv_at hl 2 rfl) ?_
                    refine n_iald hx hb hK hP 6 rfl (by omega) (by first | decide | omega) dX7_digest_147 ?_
                    refine lv_i2l (v := ((nI ((sKd σ) i))).toInt64) hx hb dX7_digest_148 rfl ?_
                    refine lv_ladd hx hb dX7_digest_149 ?_
                    refine lv_ldc2 hx hb hown lk3 dX7_digest_150 ?_
                    refine lv_lmul hx hb dX7_digest_153 ?_
                    refine lv_aload_n hx hb dX7_digest_154 rfl (lv_at hl 0 rfl) ?_
                    refine va_get (D := G) (ci := 7) (v := .ref (a 7)) (C := RX7) (T := TX7) (N := 23) hx hb hts inX7 hown hK hP 0 rfl rfl 9 (by decide) lk9 (fun _ h9 => h9) rfl dX7_digest_155 ?_
                    refine lv_iload_n hx hb dX7_digest_158 rfl (lv_at hl 2 rfl) ?_
                    refine n_iald hx hb hK hP 7 rfl (by omega) (by first | decide | omega) dX7_digest_159 ?_
                    refine lv_i2l (v := ((nI ((sA σ) i))).toInt64) hx hb dX7_digest_160 rfl ?_
                    refine lv_ladd hx hb dX7_digest_161 ?_
                    refine lv_ldc2 hx hb hown lk3 dX7_digest_162 ?_
                    refine lv_lmul hx hb dX7_digest_165 ?_
                    refine lv_aload_n hx hb dX7_digest_166 rfl (lv_at hl 0 rfl) ?_
                    refine va_get (D := G) (ci := 7) (v := .ref (a 8)) (C := RX7) (T := TX7) (N := 23) hx hb hts inX7 hown hK hP 0 rfl rfl 10 (by decide) lk10 (fun _ h9 => h9) rfl dX7_digest_167 ?_
                    refine lv_iload_n hx hb dX7_digest_170 rfl (lv_at hl 2 rfl) ?_
                    refine n_iald hx hb hK hP 8 rfl (by omega) (by first | decide | omega) dX7_digest_171 ?_
                    refine lv_i2l (v := ((nI ((sB σ) i))).toInt64) hx hb dX7_digest_172 rfl ?_
                    refine lv_ladd hx hb dX7_digest_173 ?_
                    refine lv_ldc2 hx hb hown lk3 dX7_digest_174 ?_
                    refine lv_lmul hx hb dX7_digest_177 ?_
                    refine lv_aload_n hx hb dX7_digest_178 rfl (lv_at hl 0 rfl) ?_
                    refine va_get (D := G) (ci := 7) (v := .ref (a 9)) (C := RX7) (T := TX7) (N := 23) hx hb hts inX7 hown hK hP 0 rfl rfl 11 (by decide) lk11 (fun _ h9 => h9) rfl dX7_digest_179 ?_
                    refine lv_iload_n hx hb dX7_digest_182 rfl (lv_at hl 2 rfl) ?_
                    refine b_bald hx hb hK hP 9 rfl (by omega) (by first | decide | omega) dX7_digest_183 ?_
                    refine b_if_eq (tgt := 191) hx hb dX7_digest_184 (by decide) (fun q184 => ?_) (fun q184 => ?_)
                    · skip
                      refine lv_lconst (v := 0) hx hb dX7_digest_191 (by decide) ?_
                      refine lv_ladd hx hb dX7_digest_192 ?_
                      refine lv_lstore_n (lv' := [(1, .long ((((((((d9 * 31) + (((nI ((sKd σ) i))).toInt64)) * 31) + (((nI ((sA σ) i))).toInt64)) * 31) + (((nI ((sB σ) i))).toInt64)) * 31) + 0)), (0, .ref (a 0)), (3, .int (nI i))]) hx hb dX7_digest_193 rfl hl (by decide) rfl (fun ls hl => ?_)
                      refine n_iinc (lv' := [(3, .int (nI (i + 1))), (1, .long ((((((((d9 * 31) + (((nI ((sKd σ) i))).toInt64)) * 31) + (((nI ((sA σ) i))).toInt64)) * 31) + (((nI ((sB σ) i))).toInt64)) * 31) + 0)), (0, .ref (a 0))]) (k := 2) 1 hx hb dX7_digest_194 hl rfl (by decide) (by decide) rfl (fun ls hl => ?_)
                      refine lv_goto (tgt := 129) hx hb dX7_digest_197 (by decide) ?_
                      exact ih129 ((((((((d9 * 31) + (((nI ((sKd σ) i))).toInt64)) * 31) + (((nI ((sA σ) i))).toInt64)) * 31) + (((nI ((sB σ) i))).toInt64)) * 31) + 0) (i + 1) (by omega) (by omega) (by rw [ed]; first | exact dgC_t q184 | exact dgC_f q184) _ _ hP hD hS _ (lv_sub hl [2, 1, 0] rfl)
                    · skip
                      refine lv_lconst (v := 1) hx hb dX7_digest_187 (by decide) ?_
                      refine lv_goto (tgt := 192) hx hb dX7_digest_188 (by decide) ?_
                      refine lv_ladd hx hb dX7_digest_192 ?_
                      refine lv_lstore_n (lv' := [(1, .long ((((((((d9 * 31) + (((nI ((sKd σ) i))).toInt64)) * 31) + (((nI ((sA σ) i))).toInt64)) * 31) + (((nI ((sB σ) i))).toInt64)) * 31) + 1)), (0, .ref (a 0)), (3, .int (nI i))]) hx hb dX7_digest_193 rfl hl (by decide) rfl (fun ls hl => ?_)
                      refine n_iinc (lv' := [(3, .int (nI (i + 1))), (1, .long ((((((((d9 * 31) + (((nI ((sKd σ) i))).toInt64)) * 31) + (((nI ((sA σ) i))).toInt64)) * 31) + (((nI ((sB σ) i))).toInt64)) * 31) + 1)), (0, .ref (a 0))]) (k := 2) 1 hx hb dX7_digest_194 hl rfl (by decide) (by decide) rfl (fun ls hl => ?_)
                      refine lv_goto (tgt := 129) hx hb dX7_digest_197 (by decide) ?_
                      exact ih129 ((((((((d9 * 31) + (((nI ((sKd σ) i))).toInt64)) * 31) + (((nI ((sA σ) i))).toInt64)) * 31) + (((nI ((sB σ) i))).toInt64)) * 31) + 1) (i + 1) (by omega) (by omega) (by rw [ed]; first | exact dgC_t q184 | exact dgC_f q184) _ _ hP hD hS _ (lv_sub hl [2, 1, 0] rfl)
              exact L129 _ ((d9 * 31) + (((nI (sK σ))).toInt64)) (0) (Nat.lt_succ_self _) (by omega) (by rw [ed, show i = sN σ by omega]; rfl) _ _ hP hD hS _ (lv_sub hl [2, 1, 0] rfl)
            · skip
              refine lv_lload_n hx hb dX7_digest_71 rfl (lv_at hl 1 rfl) ?_
              refine lv_ldc2 hx hb hown lk3 dX7_digest_72 ?_
              refine lv_lmul hx hb dX7_digest_75 ?_
              refine lv_aload_n hx hb dX7_digest_76 rfl (lv_at hl 0 rfl) ?_
              refine va_get (D := G) (ci := 7) (v := .ref (a 3)) (C := RX7) (T := TX7) (N := 23) hx hb hts inX7 hown hK hP 0 rfl rfl 4 (by decide) lk12 (fun _ h9 => h9) rfl dX7_digest_77 ?_
              refine lv_iload_n hx hb dX7_digest_80 rfl (lv_at hl 2 rfl) ?_
              refine n_iald hx hb hK hP 3 rfl (by omega) (by first | decide | omega) dX7_digest_81 ?_
              refine lv_i2l (v := ((nI ((sC σ) i))).toInt64) hx hb dX7_digest_82 rfl ?_
              refine lv_ladd hx hb dX7_digest_83 ?_
              refine lv_ldc2 hx hb hown lk3 dX7_digest_84 ?_
              refine lv_lmul hx hb dX7_digest_87 ?_
              refine lv_aload_n hx hb dX7_digest_88 rfl (lv_at hl 0 rfl) ?_
              refine va_get (D := G) (ci := 7) (v := .ref (a 4)) (C := RX7) (T := TX7) (N := 23) hx hb hts inX7 hown hK hP 0 rfl rfl 5 (by decide) lk13 (fun _ h9 => h9) rfl dX7_digest_89 ?_
              refine lv_iload_n hx hb dX7_digest_92 rfl (lv_at hl 2 rfl) ?_
              refine n_iald hx hb hK hP 4 rfl (by omega) (by first | decide | omega) dX7_digest_93 ?_
              refine lv_i2l (v := ((nI ((sV σ) i))).toInt64) hx hb dX7_digest_94 rfl ?_
              refine lv_ladd hx hb dX7_digest_95 ?_
              refine lv_ldc2 hx hb hown lk3 dX7_digest_96 ?_
              refine lv_lmul hx hb dX7_digest_99 ?_
              refine lv_aload_n hx hb dX7_digest_100 rfl (lv_at hl 0 rfl) ?_
              refine va_get (D := G) (ci := 7) (v := .ref (a 5)) (C := RX7) (T := TX7) (N := 23) hx hb hts inX7 hown hK hP 0 rfl rfl 6 (by decide) lk14 (fun _ h9 => h9) rfl dX7_digest_101 ?_
              refine lv_iload_n hx hb dX7_digest_104 rfl (lv_at hl 2 rfl) ?_
              refine n_iald hx hb hK hP 5 rfl (by omega) (by first | decide | omega) dX7_digest_105 ?_
              refine lv_i2l (v := ((nI ((sD σ) i))).toInt64) hx hb dX7_digest_106 rfl ?_
              refine lv_ladd hx hb dX7_digest_107 ?_
              refine lv_lstore_n (lv' := [(1, .long ((((((d9 * 31) + (((nI ((sC σ) i))).toInt64)) * 31) + (((nI ((sV σ) i))).toInt64)) * 31) + (((nI ((sD σ) i))).toInt64))), (0, .ref (a 0)), (3, .int (nI i))]) hx hb dX7_digest_108 rfl hl (by decide) rfl (fun ls hl => ?_)
              refine n_iinc (lv' := [(3, .int (nI (i + 1))), (1, .long ((((((d9 * 31) + (((nI ((sC σ) i))).toInt64)) * 31) + (((nI ((sV σ) i))).toInt64)) * 31) + (((nI ((sD σ) i))).toInt64))), (0, .ref (a 0))]) (k := 2) 1 hx hb dX7_digest_109 hl rfl (by decide) (by decide) rfl (fun ls hl => ?_)
              refine lv_goto (tgt := 63) hx hb dX7_digest_112 (by decide) ?_
              exact ih63 ((((((d9 * 31) + (((nI ((sC σ) i))).toInt64)) * 31) + (((nI ((sV σ) i))).toInt64)) * 31) + (((nI ((sD σ) i))).toInt64)) (i + 1) (by omega) (by omega) (by rw [ed]; rfl) _ _ hP hD hS _ (lv_sub hl [2, 1, 0] rfl)
        exact L63 _ (d9) (0) (Nat.lt_succ_self _) (by omega) (by rw [ed, show i = sN σ by omega]; rfl) _ _ hP hD hS _ (lv_sub hl [1, 2, 0] rfl)
      · skip
        refine lv_lload_n hx hb dX7_digest_29 rfl (lv_at hl 1 rfl) ?_
        refine lv_ldc2 hx hb hown lk3 dX7_digest_30 ?_
        refine lv_lmul hx hb dX7_digest_33 ?_
        refine lv_aload_n hx hb dX7_digest_34 rfl (lv_at hl 0 rfl) ?_
        refine va_get (D := G) (ci := 7) (v := .ref (a 1)) (C := RX7) (T := TX7) (N := 23) hx hb hts inX7 hown hK hP 0 rfl rfl 2 (by decide) lk15 (fun _ h9 => h9) rfl dX7_digest_35 ?_
        refine lv_iload_n hx hb dX7_digest_38 rfl (lv_at hl 2 rfl) ?_
        refine n_iald hx hb hK hP 1 rfl (by omega) (by first | decide | omega) dX7_digest_39 ?_
        refine lv_i2l (v := ((nI ((sP σ) i))).toInt64) hx hb dX7_digest_40 rfl ?_
        refine lv_ladd hx hb dX7_digest_41 ?_
        refine lv_ldc2 hx hb hown lk3 dX7_digest_42 ?_
        refine lv_lmul hx hb dX7_digest_45 ?_
        refine lv_aload_n hx hb dX7_digest_46 rfl (lv_at hl 0 rfl) ?_
        refine va_get (D := G) (ci := 7) (v := .ref (a 2)) (C := RX7) (T := TX7) (N := 23) hx hb hts inX7 hown hK hP 0 rfl rfl 3 (by decide) lk16 (fun _ h9 => h9) rfl dX7_digest_47 ?_
        refine lv_iload_n hx hb dX7_digest_50 rfl (lv_at hl 2 rfl) ?_
        refine n_iald hx hb hK hP 2 rfl (by omega) (by first | decide | omega) dX7_digest_51 ?_
        refine lv_i2l (v := ((nI ((sR σ) i))).toInt64) hx hb dX7_digest_52 rfl ?_
        refine lv_ladd hx hb dX7_digest_53 ?_
        refine lv_lstore_n (lv' := [(1, .long ((((d9 * 31) + (((nI ((sP σ) i))).toInt64)) * 31) + (((nI ((sR σ) i))).toInt64))), (0, .ref (a 0)), (3, .int (nI i))]) hx hb dX7_digest_54 rfl hl (by decide) rfl (fun ls hl => ?_)
        refine n_iinc (lv' := [(3, .int (nI (i + 1))), (1, .long ((((d9 * 31) + (((nI ((sP σ) i))).toInt64)) * 31) + (((nI ((sR σ) i))).toInt64))), (0, .ref (a 0))]) (k := 2) 1 hx hb dX7_digest_55 hl rfl (by decide) (by decide) rfl (fun ls hl => ?_)
        refine lv_goto (tgt := 21) hx hb dX7_digest_58 (by decide) ?_
        exact ih21 ((((d9 * 31) + (((nI ((sP σ) i))).toInt64)) * 31) + (((nI ((sR σ) i))).toInt64)) (i + 1) (by omega) (by omega) (by omega) (by rw [dgF_succ hi1, ed]; rfl) _ _ hP hD hS _ (lv_sub hl [2, 1, 0] rfl)
  exact L21 _ (4309 + (((nI (sN σ))).toInt64)) (1) (Nat.lt_succ_self _) (by omega) (by omega) (by rfl) _ _ hP hD hS _ (lv_sub hl [2, 1, 0] rfl)
