/-! rows for p39's law (written by wip/p39/gen_rows39.py) -/
theorem xI_bitB {c f : Nat} (hc : c < 2 ^ 31) (hf : f < 32) : (nI c >>> (nI f &&& 31)) &&& nI 1 = bI (c.testBit f) := xI_bit hc hf
theorem xI_bitN {c f : Nat} (hc : c < 2 ^ 31) (hf : f < 32) : (nI c >>> (nI f &&& 31)) &&& nI 1 = nI (if c.testBit f then 1 else 0) := by
  rw [xI_bitB hc hf]
  cases c.testBit f <;> rfl
theorem fit_neg {bud S : Int32} (h : bud = -1 ∨ 0 ≤ bud) (q : bud < 0) : true = (decide (bud = -1) || decide (S ≤ bud)) := by
  rcases h with h | h
  · rw [decide_eq_true h]; rfl
  · exact absurd q (Int32.not_lt.mpr h)
theorem fit_le {bud S : Int32} (q : ¬ bud < S) : true = (decide (bud = -1) || decide (S ≤ bud)) := by
  rw [decide_eq_true (Int32.not_lt.mp q), Bool.or_true]
theorem fit_gt {bud S : Int32} (q3 : ¬ bud < 0) (q : bud < S) : false = (decide (bud = -1) || decide (S ≤ bud)) := by
  rw [decide_eq_false (fun z => q3 (by rw [z]; decide)), decide_eq_false (fun z => absurd q (Int32.not_lt.mpr z))]; rfl
section P39N
variable {p : Program} {l : Launch} {e : Env} {R : Room} {s : State} {m : MethodId} {args : Array Value} {below : List Frame} {meth : Method} {c : Code} {H : Heap} {locs : List Loc} {cells slots : Nat} {Q : State → Prop}
variable {cc : ByteArray} {pc : Nat} {ls : Array Slot} {rest : List Value}
theorem n_irem {a b : Nat} (h0 : 0 < b) (ha : a < 2 ^ 31) (hb2 : b < 2 ^ 31) (hx : p.tables.exec = Jvm.exec) (hb : c.code = cc) (hdg : decode cc pc = .ok (.irem, 1)) (kk : W p l e R s m args below meth c H locs cells slots Q (F0 m (pc + 1) ls (.int (nI (a % b)) :: rest))) : W p l e R s m args below meth c H locs cells slots Q (F0 m pc ls (.int (nI b) :: .int (nI a) :: rest)) := lv_irem hx hb hdg (nI_ne0 h0 hb2) (by rw [pk_rem ha h0 hb2]; exact kk)
theorem n_idiv {a b : Nat} (h0 : 0 < b) (ha : a < 2 ^ 31) (hb2 : b < 2 ^ 31) (hx : p.tables.exec = Jvm.exec) (hb : c.code = cc) (hdg : decode cc pc = .ok (.idiv, 1)) (kk : W p l e R s m args below meth c H locs cells slots Q (F0 m (pc + 1) ls (.int (nI (a / b)) :: rest))) : W p l e R s m args below meth c H locs cells slots Q (F0 m pc ls (.int (nI b) :: .int (nI a) :: rest)) := lv_idiv hx hb hdg (nI_ne0 h0 hb2) (by rw [pk_div ha h0 hb2]; exact kk)
end P39N
/-- the script is read -/
theorem s_ld {p : Program} {l : Launch} {e : Env} {R : Room} {s : State} {m : MethodId} {args : Array Value} {below : List Frame} {meth : Method} {c : Code} {H : Heap} {locs : List Loc} {cells slots : Nat} {Q : State → Prop} {cc : ByteArray} {pc : Nat} {ls : Array Slot} {rest : List Value} {A : Nat → Prop} {b L i : Nat} {xs : Nat → Int32} (hx : p.tables.exec = Jvm.exec) (hb : c.code = cc) (hX : va_X b L xs s s.heap) (hbl : b < s.heap.size) (hbA : ¬ A b) (hS : va_S A s.heap H locs) (hin : i < L) (hL : L < 2 ^ 31) (hdg : decode cc pc = .ok (.iaload, 1))
    (kk : W p l e R s m args below meth c H locs cells slots Q (F0 m (pc + 1) ls (.int (xs i) :: rest))) : W p l e R s m args below meth c H locs cells slots Q (F0 m pc ls (.int (nI i) :: .ref b :: rest)) :=
  va_sld hx hb hX hbl hbA hS (vp_in_nI hin hL) hdg (by rw [nI_clamp (Nat.lt_trans hin hL)]; exact kk)
/-- a contract that may throw, where its exceptions are shut out -/
theorem met_vx {l : Launch} {y : MethodName} {ws : List Cond} {rm : Room} {Pc : Array Value → State → Prop} {Qc Qc' : Array Value → State → Outcome → State → Prop} {XC : String → State → State → Prop} {mc ms : Nat} {free : Addr → Prop} (h : vx_Met l y ws rm Pc Qc XC mc ms free) (hno : ∀ E s t, XC E s t → False) (hq : ∀ a s o t, Qc a s o t → Qc' a s o t) : Met l y ws rm Pc Qc' mc ms free := by
  intro p e ha hc hk s m args below hf happ hP hK
  obtain ⟨n, o, h1, h2, h3, h4⟩ := h p e ha hc hk s m args below hf happ hP hK
  refine ⟨n, o, h1, h2, h3, ?_⟩
  rcases h4 with ⟨a, b⟩ | ⟨q, -, E, ce, L, hX, -⟩
  · exact ⟨hq _ _ _ _ a, b⟩
  · exact (hno E _ _ hX).elim
theorem met_vxi {l : Launch} {y : MethodName} {ws : List Cond} {rm : Room} {Pc : Array Value → State → Prop} {S SX : Type} {post post' : Int32 → S → Prop} {B : S → State → Prop} {A A' : Nat → Prop} {pX : SX → Prop} {BX : String → SX → State → Prop} {mc ms : Nat} {free : Addr → Prop} (h : vx_Met l y ws rm Pc (va_Qi post B A) (vx_X pX BX A') mc ms free) (hno : ∀ E u t, BX E u t → False) (hq : ∀ r u, post r u → post' r u) : Met l y ws rm Pc (va_Qi post' B A) mc ms free :=
  met_vx h (fun E s t z => by obtain ⟨u, -, hB, -⟩ := z; exact hno E u t hB) (fun a s o t z => by
    obtain ⟨⟨r, u, h1, h2, h3⟩, h4⟩ := z
    exact ⟨⟨r, u, h1, hq r u h2, h3⟩, h4⟩)
theorem q_add (l : Launch) (hst : l.stackTraces = false) (G : va_G) (k : Nat → ClassId) (sz : Nat) (b : Nat → Nat) (σ : Sg) (x : Cx) (p r : Nat) (hp : p < sN σ) (hr : r < 4) (h12 : sN σ < 12) (hok : COK σ x) : Met l yX6_addFeature wsX6_addFeature ({ frames := 7, cells := 4, slots := 24, locals := 111 } : Room) (va_Pc [.ref (b 0), .int (nI p), .int (nI r)] (Wx G k (clW k b σ x) sz)) (va_Qi (fun (rX : Int32) (u : Cx) => rX = nI (sN σ) ∧ COK (addS σ p r) u) (Bm G k (va_A (clW k b σ x) sz) (fun u : Cx => clW k b (addS σ p r) u)) (va_A (clW k b σ x) sz)) 4 24 (va_A (clW k b σ x) sz) := by
  have he : e_add σ (nI p) (nI r) = 0 := by have hn := hok.1.2.1; have hkc := hok.1.2.2.2.2.2.2.2.2.2.1; unfold e_add; rw [if_pos ((isF_nI (n := sN σ) (by omega) (by omega)).trans (decide_eq_true hp)), if_pos ((isF_nI (n := 4) (by omega) (by omega)).trans (decide_eq_true hr)), if_neg (by omega)]
  have h := m_X6_addFeature l hst G k sz b σ x (nI p) (nI r) hok
  rw [(s_add_ok he).trans (by rw [tn_nI (by omega), tn_nI (by omega)] : addS σ (tn (nI p)) (tn (nI r)) = addS σ p r)] at h
  refine met_vxi h (fun E u t z => ?_) (fun r u z => ?_)
  · obtain ⟨⟨z, -⟩, -⟩ := z
    rcases z with ⟨-, z⟩ | ⟨-, z⟩ | ⟨-, z⟩ <;> (rw [he] at z; exact absurd z (by decide))
  · obtain ⟨v, h1, -, h2, h3⟩ := z
    exact ⟨h1.trans (h2.trans (by rfl)), h3⟩
theorem q_wor (l : Launch) (hst : l.stackTraces = false) (G : va_G) (k : Nat → ClassId) (sz : Nat) (b : Nat → Nat) (σ : Sg) (x : Cx) (f c v : Nat) (hf : f < sN σ) (hc : c ≤ 1000) (hv : v ≤ 1000) (hok : COK σ x) : Met l yX6_setWorth wsX6_setWorth ({ frames := 7, cells := 4, slots := 24, locals := 111 } : Room) (va_Pc [.ref (b 0), .int (nI f), .int (nI c), .int (nI v)] (Wx G k (clW k b σ x) sz)) (va_Qi (fun (rX : Int32) (u : Cx) => rX = bI (!(decide (sC σ f = c) && decide (sV σ f = v))) ∧ COK (worS σ f c v) u) (Bm G k (va_A (clW k b σ x) sz) (fun u : Cx => clW k b (worS σ f c v) u)) (va_A (clW k b σ x) sz)) 4 24 (va_A (clW k b σ x) sz) := by
  have he : e_wor σ (nI f) (nI c) (nI v) = 0 := by have hn := hok.1.2.1; have hkc := hok.1.2.2.2.2.2.2.2.2.2.1; unfold e_wor; rw [if_pos ((isF_nI (n := sN σ) (by omega) (by omega)).trans (decide_eq_true hf)), if_pos ⟨(isF_nI (n := 1001) (by omega) (by omega)).trans (decide_eq_true (by omega)), (isF_nI (n := 1001) (by omega) (by omega)).trans (decide_eq_true (by omega))⟩]
  have h := m_X6_setWorth l hst G k sz b σ x (nI f) (nI c) (nI v) hok
  rw [(s_wor_ok he).trans (by have hn := hok.1.2.1; rw [tn_nI (by omega), tn_nI (by omega), tn_nI (by omega)] : worS σ (tn (nI f)) (tn (nI c)) (tn (nI v)) = worS σ f c v)] at h
  refine met_vxi h (fun E u t z => ?_) (fun r u z => ?_)
  · obtain ⟨⟨z, -⟩, -⟩ := z
    rcases z with ⟨-, z⟩ | ⟨-, z⟩ <;> (rw [he] at z; exact absurd z (by decide))
  · obtain ⟨v, h1, -, h2, h3⟩ := z
    exact ⟨h1.trans (h2.trans (by have hn := hok.1.2.1; rw [tn_nI (by omega), tn_nI (by omega), tn_nI (by omega)])), h3⟩
theorem q_dec (l : Launch) (hst : l.stackTraces = false) (G : va_G) (k : Nat → ClassId) (sz : Nat) (b : Nat → Nat) (σ : Sg) (x : Cx) (f d : Nat) (hf : f < sN σ) (hd : d < 3) (hok : COK σ x) : Met l yX6_decide wsX6_decide ({ frames := 7, cells := 4, slots := 24, locals := 111 } : Room) (va_Pc [.ref (b 0), .int (nI f), .int (nI d)] (Wx G k (clW k b σ x) sz)) (va_Qi (fun (rX : Int32) (u : Cx) => rX = nI (sD σ f) ∧ COK (decS σ f d) u) (Bm G k (va_A (clW k b σ x) sz) (fun u : Cx => clW k b (decS σ f d) u)) (va_A (clW k b σ x) sz)) 4 24 (va_A (clW k b σ x) sz) := by
  have he : e_dec σ (nI f) (nI d) = 0 := by have hn := hok.1.2.1; have hkc := hok.1.2.2.2.2.2.2.2.2.2.1; unfold e_dec; rw [if_pos ((isF_nI (n := sN σ) (by omega) (by omega)).trans (decide_eq_true hf)), if_pos ((isF_nI (n := 3) (by omega) (by omega)).trans (decide_eq_true hd))]
  have h := m_X6_decide l hst G k sz b σ x (nI f) (nI d) hok
  rw [(s_dec_ok he).trans (by have hn := hok.1.2.1; rw [tn_nI (by omega), tn_nI (by omega)] : decS σ (tn (nI f)) (tn (nI d)) = decS σ f d)] at h
  refine met_vxi h (fun E u t z => ?_) (fun r u z => ?_)
  · obtain ⟨⟨z, -⟩, -⟩ := z
    rcases z with ⟨-, z⟩ | ⟨-, z⟩ <;> (rw [he] at z; exact absurd z (by decide))
  · obtain ⟨v, h1, -, h2, h3⟩ := z
    exact ⟨h1.trans (h2.trans (by have hn := hok.1.2.1; rw [tn_nI (by omega)])), h3⟩
theorem q_con (l : Launch) (hst : l.stackTraces = false) (G : va_G) (k : Nat → ClassId) (sz : Nat) (b : Nat → Nat) (σ : Sg) (x : Cx) (j a o : Nat) (hj : j < 2) (ha : a < sN σ) (ho : o < sN σ) (h10 : sK σ < 10) (hok : COK σ x) : Met l yX6_addConstraint wsX6_addConstraint ({ frames := 7, cells := 4, slots := 24, locals := 111 } : Room) (va_Pc [.ref (b 0), .int (nI j), .int (nI a), .int (nI o)] (Wx G k (clW k b σ x) sz)) (va_Qi (fun (rX : Int32) (u : Cx) => rX = nI (sK σ) ∧ COK (conS σ j a o) u) (Bm G k (va_A (clW k b σ x) sz) (fun u : Cx => clW k b (conS σ j a o) u)) (va_A (clW k b σ x) sz)) 4 24 (va_A (clW k b σ x) sz) := by
  have he : e_con σ (nI j) (nI a) (nI o) = 0 := by have hn := hok.1.2.1; have hkc := hok.1.2.2.2.2.2.2.2.2.2.1; unfold e_con; rw [if_pos ((isF_nI (n := 2) (by omega) (by omega)).trans (decide_eq_true hj)), if_pos ⟨(isF_nI (n := sN σ) (by omega) (by omega)).trans (decide_eq_true ha), (isF_nI (n := sN σ) (by omega) (by omega)).trans (decide_eq_true ho)⟩, if_neg (by omega)]
  have h := m_X6_addConstraint l hst G k sz b σ x (nI j) (nI a) (nI o) hok
  rw [(s_con_ok he).trans (by have hn := hok.1.2.1; rw [tn_nI (by omega), tn_nI (by omega), tn_nI (by omega)] : conS σ (tn (nI j)) (tn (nI a)) (tn (nI o)) = conS σ j a o)] at h
  refine met_vxi h (fun E u t z => ?_) (fun r u z => ?_)
  · obtain ⟨⟨z, -⟩, -⟩ := z
    rcases z with ⟨-, z⟩ | ⟨-, z⟩ | ⟨-, z⟩ <;> (rw [he] at z; exact absurd z (by decide))
  · obtain ⟨v, h1, -, h2, h3⟩ := z
    exact ⟨h1.trans (h2.trans (by rfl)), h3⟩
theorem q_trn (l : Launch) (hst : l.stackTraces = false) (G : va_G) (k : Nat → ClassId) (sz : Nat) (b : Nat → Nat) (σ : Sg) (x : Cx) (i : Nat) (c9 : Bool) (hi : i < sK σ) (hok : COK σ x) : Met l yX6_turn wsX6_turn ({ frames := 6, cells := 4, slots := 24, locals := 90 } : Room) (va_Pc [.ref (b 0), .int (nI i), .int (bI c9)] (Wx G k (clW k b σ x) sz)) (va_Qi (fun (rX : Int32) (u : Cx) => rX = bI (sO σ i) ∧ COK (trnS σ i c9) u) (Bm G k (va_A (clW k b σ x) sz) (fun u : Cx => clW k b (trnS σ i c9) u)) (va_A (clW k b σ x) sz)) 4 24 (va_A (clW k b σ x) sz) := by
  have he : e_trn σ (nI i) = 0 := by have hn := hok.1.2.1; have hkc := hok.1.2.2.2.2.2.2.2.2.2.1; unfold e_trn e_if; rw [if_pos ((isF_nI (n := sK σ) (by omega) (by omega)).trans (decide_eq_true hi))]
  have h := m_X6_turn l hst G k sz b σ x (nI i) c9 hok
  rw [(s_trn_ok he).trans (by have hkc := hok.1.2.2.2.2.2.2.2.2.2.1; rw [tn_nI (by omega)] : trnS σ (tn (nI i)) c9 = trnS σ i c9)] at h
  refine met_vxi h (fun E u t z => ?_) (fun r u z => ?_)
  · obtain ⟨⟨z, -⟩, -⟩ := z
    obtain ⟨-, z⟩ := z <;> (rw [he] at z; exact absurd z (by decide))
  · obtain ⟨v, h1, -, h2, h3⟩ := z
    exact ⟨h1.trans (h2.trans (by have hkc := hok.1.2.2.2.2.2.2.2.2.2.1; rw [tn_nI (by omega)])), h3⟩
theorem q_bud (l : Launch) (hst : l.stackTraces = false) (G : va_G) (k : Nat → ClassId) (sz : Nat) (b : Nat → Nat) (σ : Sg) (x : Cx) (b9 : Int32) (h1 : ¬ (b9 < -1 ∨ 20000 < b9)) (hok : COK σ x) : Met l yX6_setBudget wsX6_setBudget ({ frames := 6, cells := 4, slots := 24, locals := 90 } : Room) (va_Pc [.ref (b 0), .int b9] (Wx G k (clW k b σ x) sz)) (va_Qi (fun (rX : Int32) (u : Cx) => rX = sU σ ∧ COK (budS σ b9) u) (Bm G k (va_A (clW k b σ x) sz) (fun u : Cx => clW k b (budS σ b9) u)) (va_A (clW k b σ x) sz)) 4 24 (va_A (clW k b σ x) sz) := by
  have he : e_bud b9 = 0 := by unfold e_bud; rw [if_neg h1]
  have h := m_X6_setBudget l hst G k sz b σ x b9 hok
  rw [s_bud_ok he] at h
  refine met_vxi h (fun E u t z => ?_) (fun r u z => ?_)
  · obtain ⟨⟨z, -⟩, -⟩ := z
    obtain ⟨-, z⟩ := z <;> (rw [he] at z; exact absurd z (by decide))
  · obtain ⟨v, h1, -, h2, h3⟩ := z
    exact ⟨h1.trans (h2.trans (by rfl)), h3⟩
theorem q_vio (l : Launch) (hst : l.stackTraces = false) (G : va_G) (k : Nat → ClassId) (sz : Nat) (b : Nat → Nat) (σ : Sg) (x : Cx) (c : Nat) (hc : c < 2 ^ sN σ) (hok : COK σ x) : Met l yX6_violations wsX6_violations ({ frames := 7, cells := 4, slots := 24, locals := 111 } : Room) (va_Pc [.ref (b 0), .int (nI c)] (Wx G k (clW k b σ x) sz)) (va_Qi (fun (rX : Int32) (u : Cx) => rX = nI (treeN (sN σ) (sP σ) (sR σ) c + popc (cnN (sKd σ) (sA σ) (sB σ) (sO σ) c (sK σ))) ∧ COK σ u) (Bm G k (va_A (clW k b σ x) sz) (fun u : Cx => clW k b σ u)) (va_A (clW k b σ x) sz)) 4 24 (va_A (clW k b σ x) sz) := by
  have he : e_cfg σ (nI c) = 0 := by have hn := hok.1.2.1; have hkc := hok.1.2.2.2.2.2.2.2.2.2.1; have hp := pow12 hn; unfold e_cfg e_if; rw [if_pos ((isF_nI (n := 2 ^ sN σ) (by omega) (by omega)).trans (decide_eq_true hc))]
  have h := m_X6_violations l hst G k sz b σ x (nI c) hok
  refine met_vxi h (fun E u t z => ?_) (fun r u z => ?_)
  · obtain ⟨⟨z, -⟩, -⟩ := z
    obtain ⟨-, z⟩ := z <;> (rw [he] at z; exact absurd z (by decide))
  · obtain ⟨v, h1, -, h2, h3⟩ := z
    exact ⟨h1.trans (h2.trans (by have hn := hok.1.2.1; have hp := pow12 hn; rw [tn_nI (by omega)])), h3⟩
theorem q_can (l : Launch) (hst : l.stackTraces = false) (G : va_G) (k : Nat → ClassId) (sz : Nat) (b : Nat → Nat) (σ : Sg) (x : Cx) (i : Nat) (hi : i < cntC σ) (hok : COK σ x) : Met l yX6_candidate wsX6_candidate ({ frames := 7, cells := 4, slots := 24, locals := 111 } : Room) (va_Pc [.ref (b 0), .int (nI i)] (Wx G k (clW k b σ x) sz)) (va_Qi (fun (rX : Int32) (u : Cx) => rX = nI (nthN (candB σ) i (M2 σ)) ∧ COK σ u) (Bm G k (va_A (clW k b σ x) sz) (fun u : Cx => clW k b σ u)) (va_A (clW k b σ x) sz)) 4 24 (va_A (clW k b σ x) sz) := by
  have he : e_if (isF (nI i) (cntC σ)) = 0 := by have hcl := cntC_le hok.1; unfold e_if; rw [if_pos ((isF_nI (n := cntC σ) (by omega) (by omega)).trans (decide_eq_true hi))]
  have h := m_X6_candidate l hst G k sz b σ x (nI i) hok
  refine met_vxi h (fun E u t z => ?_) (fun r u z => ?_)
  · obtain ⟨⟨z, -⟩, -⟩ := z
    obtain ⟨-, z⟩ := z <;> (rw [he] at z; exact absurd z (by decide))
  · obtain ⟨v, h1, -, h2, h3⟩ := z
    exact ⟨h1.trans (h2.trans (by have hcl := cntC_le hok.1; rw [tn_nI (by omega)])), h3⟩
theorem q_sam (l : Launch) (hst : l.stackTraces = false) (G : va_G) (k : Nat → ClassId) (sz : Nat) (b : Nat → Nat) (σ : Sg) (x : Cx) (i : Nat) (hi : i < smC σ) (hs : smC σ ≤ 576) (hok : COK σ x) : Met l yX6_sample wsX6_sample ({ frames := 7, cells := 4, slots := 24, locals := 139 } : Room) (va_Pc [.ref (b 0), .int (nI i)] (Wx G k (clW k b σ x) sz)) (va_Qi (fun (rX : Int32) (u : Cx) => rX = nI (smpS (candB σ) (sN σ) (M2 σ) i) ∧ COK σ u) (Bm G k (va_A (clW k b σ x) sz) (fun u : Cx => clW k b σ u)) (va_A (clW k b σ x) sz)) 4 24 (va_A (clW k b σ x) sz) := by
  have he : e_if (isF (nI i) (smC σ)) = 0 := by unfold e_if; rw [if_pos ((isF_nI (n := smC σ) (by omega) (by omega)).trans (decide_eq_true hi))]
  have h := m_X6_sample l hst G k sz b σ x (nI i) hok
  refine met_vxi h (fun E u t z => ?_) (fun r u z => ?_)
  · obtain ⟨⟨z, -⟩, -⟩ := z
    obtain ⟨-, z⟩ := z <;> (rw [he] at z; exact absurd z (by decide))
  · obtain ⟨v, h1, -, h2, h3⟩ := z
    exact ⟨h1.trans (h2.trans (by rw [tn_nI (by omega)])), h3⟩
