/-! what p39's law asks of the numbers -/
/-! candidates ascend -/
theorem h_asc {p : Nat → Bool} {M i j : Nat} (hij : i < j) (hj : j < fb_ct p M) : nthN p i M < nthN p j M := by
  obtain ⟨a1, a2, a3⟩ := nth_ok (p := p) (M := M) (i := i) (by omega)
  obtain ⟨b1, b2, b3⟩ := nth_ok (p := p) (M := M) (i := j) hj
  rcases Nat.lt_or_ge (nthN p i M) (nthN p j M) with q | q
  · exact q
  · have := fb_ct_mono p q
    omega
theorem h_nth {σ : Sg} {i : Nat} (h : i < cntC σ) : nthN (candB σ) i (M2 σ) < M2 σ ∧ candB σ (nthN (candB σ) i (M2 σ)) = true := ⟨(nth_ok h).1, (nth_ok h).2.1⟩
/-- the candidate before, -1 at first -/
def befI (σ : Sg) : Nat → Int32
  | 0 => -1
  | i + 1 => nI (nthN (candB σ) i (M2 σ))
theorem h_bef {σ : Sg} (h : WF σ) {i : Nat} (hi : i < cntC σ) : ¬ nI (nthN (candB σ) i (M2 σ)) ≤ befI σ i := by
  have hp := pow12 h.2.1
  have h1 := (h_nth hi).1
  have hM : M2 σ = 2 ^ sN σ := rfl
  cases i with
  | zero => exact Int32.not_le.mpr (neg1_lt (by omega))
  | succ i =>
    have h2 := (h_nth (σ := σ) (i := i) (by omega)).1
    have h3 := h_asc (p := candB σ) (M := M2 σ) (show i < i + 1 by omega) hi
    exact Int32.not_le.mpr ((nI_ltI (by omega) (by omega)).mpr h3)
theorem h_vio {σ : Sg} {c : Nat} (h : candB σ c = true) : treeN (sN σ) (sP σ) (sR σ) c + popc (cnN (sKd σ) (sA σ) (sB σ) (sO σ) c (sK σ)) = 0 := by
  have h1 := cand_prod h
  unfold prodB at h1
  rw [Bool.and_eq_true, decide_eq_true_eq, decide_eq_true_eq] at h1
  rw [h1.1, h1.2]
  exact (popc_0 (n := 1) (by decide) (by decide)).mpr rfl
theorem h_fit {σ : Sg} {c : Nat} (h : candB σ c = true) : fitB (sN σ) (sC σ) (sD σ) (sU σ) c = true := by
  unfold candB at h
  rw [Bool.and_eq_true] at h
  exact h.2
/-! the pairs that the sample shows -/
def tI (c a b : Nat) : Nat := (if c.testBit a then 2 else 0) + (if c.testBit b then 1 else 0)
theorem prK_tI (c a b : Nat) : prK c a b = 4 * (12 * a + b) + tI c a b := by unfold prK tI; omega
theorem tI_lt (c a b : Nat) : tI c a b < 4 := by unfold tI; split <;> split <;> omega
theorem tI_eq {c c' a b : Nat} : tI c a b = tI c' a b ↔ prK c a b = prK c' a b := by rw [prK_tI, prK_tI]; omega
theorem h_two (x y : Bool) : 2 * (if x = true then 1 else 0) + (if y = true then 1 else 0) = (if x = true then 2 else 0) + (if y = true then 1 else 0) := by cases x <;> cases y <;> rfl
theorem popc_or {v t : Nat} (hv : v < 16) (ht : t < 4) : popc (v ||| 2 ^ t) + (if v.testBit t then 1 else 0) = popc v + 1 := by
  have h : ∀ v : Fin 16, ∀ t : Fin 4, popc (v.val ||| 2 ^ t.val) + (if v.val.testBit t.val then 1 else 0) = popc v.val + 1 := by decide +kernel
  exact h ⟨v, hv⟩ ⟨t, ht⟩
theorem or_16 {v t : Nat} (hv : v < 16) (ht : t < 4) : v ||| 2 ^ t < 16 := Nat.or_lt_two_pow (n := 4) hv (Nat.pow_lt_pow_right (by decide) ht)
def GOK (n : Nat) (gf : Nat → Nat) (T : Nat → Bool) : Prop := (∀ c a b, a < b → b < n → (gf (7 * a + b)).testBit (tI c a b) = T (prK c a b)) ∧ (∀ j, gf j < 16) ∧ fb_sm (fun j => popc (gf j)) 49 = fb_ct T 576
theorem GOK_0 (n : Nat) : GOK n (fun _ => 0) (fun _ => false) := by
  refine ⟨fun _ _ _ _ _ => Nat.zero_testBit _, fun _ => by show 0 < 16; decide, ?_⟩
  rw [fb_ct_zero.mpr (fun _ _ => rfl)]
  rw [fb_sm_cong (g := fun _ => 0) (fun _ _ => (popc_0 (n := 1) (by decide) (by decide)).mpr rfl), fb_sm_const]
theorem GOK_cong {n : Nat} {gf : Nat → Nat} {T T' : Nat → Bool} (h : GOK n gf T) (e : ∀ q, T q = T' q) : GOK n gf T' := by
  rw [show T' = T from funext (fun q => (e q).symm)]; exact h
theorem GOK_step {n : Nat} {gf : Nat → Nat} {T : Nat → Bool} {c a b : Nat} (h : GOK n gf T) (hn : n ≤ 7) (hab : a < b) (hb : b < n) : GOK n (va_up gf (7 * a + b) (gf (7 * a + b) ||| 2 ^ tI c a b)) (fun q => T q || decide (prK c a b = q)) := by
  obtain ⟨h1, h2, h3⟩ := h
  have ht := tI_lt c a b
  have hv := h2 (7 * a + b)
  refine ⟨fun c' a' b' ha' hb' => ?_, fun j => ?_, ?_⟩
  · by_cases e : a' = a ∧ b' = b
    · obtain ⟨rfl, rfl⟩ := e
      rw [va_up_self, fb_bit_set, h1 c' a' b' ha' hb']
      congr 1
      exact decide_eq_decide.mpr ((eq_comm).trans tI_eq)
    · rw [va_up_ne _ _ (show 7 * a' + b' ≠ 7 * a + b by omega), h1 c' a' b' ha' hb']
      show T (prK c' a' b') = (T (prK c' a' b') || decide (prK c a b = prK c' a' b'))
      rw [decide_eq_false (fun z => e (by
        rw [prK_tI, prK_tI] at z
        have := tI_lt c' a' b'
        omega)), Bool.or_false]
  · unfold va_up
    split
    · exact or_16 hv ht
    · exact h2 j
  · have e1 := fb_sm_upd (fun j => popc (gf j)) (popc (gf (7 * a + b) ||| 2 ^ tI c a b)) (i := 7 * a + b) (n := 49) (by omega)
    have e2 := fb_ct_upd T true (i := prK c a b) (n := 576) (prK_lt (by omega) (by omega))
    have e3 := popc_or hv ht
    rw [h1 c a b hab hb] at e3
    have e4 : (fun j => popc (va_up gf (7 * a + b) (gf (7 * a + b) ||| 2 ^ tI c a b) j)) = (fun k => if k = 7 * a + b then popc (gf (7 * a + b) ||| 2 ^ tI c a b) else popc (gf k)) := funext (fun j => by unfold va_up; split <;> rfl)
    have e5 : (fun q => T q || decide (prK c a b = q)) = (fun k => if k = prK c a b then true else T k) := funext (fun q => by
      by_cases z : q = prK c a b
      · rw [if_pos z, decide_eq_true z.symm, Bool.or_true]
      · rw [if_neg z, decide_eq_false (fun y => z y.symm), Bool.or_false])
    rw [e4, e5]
    rw [if_pos rfl] at e2
    omega
def TS (σ : Sg) (i a b : Nat) : Nat → Bool := fun q => Dsm (candB σ) (sN σ) (M2 σ) i q || seenB (sN σ) (smpS (candB σ) (sN σ) (M2 σ) i) a b q
theorem TS_0 (σ : Sg) : ∀ q, false = TS σ 0 0 0 q := fun q => by unfold TS; rw [seen_0]; rfl
theorem TS_b {σ : Sg} {i a b : Nat} (hab : a < b) : ∀ q, (TS σ i a b q || decide (prK (smpS (candB σ) (sN σ) (M2 σ) i) a b = q)) = TS σ i a (b + 1) q := fun q => by
  unfold TS
  rw [seen_step hab, Bool.or_assoc]
theorem TS_in {σ : Sg} {i a : Nat} : ∀ q, TS σ i a 0 q = TS σ i a (a + 1) q := fun q => by
  unfold TS
  rw [seen_in _ _ _ _ (Nat.le_refl (a + 1))]
theorem TS_a {σ : Sg} {i a b : Nat} (hb : sN σ ≤ b) (hb2 : b ≤ sN σ) : ∀ q, TS σ i a b q = TS σ i (a + 1) 0 q := fun q => by
  rw [show b = sN σ by omega]
  unfold TS
  rw [seen_up]
theorem TS_i {σ : Sg} {i a : Nat} (ha : sN σ ≤ a) (ha2 : a ≤ sN σ) : ∀ q, TS σ i a 0 q = TS σ (i + 1) 0 0 q := fun q => by
  rw [show a = sN σ by omega]
  unfold TS
  rw [seen_all, seen_0, Bool.or_false]
  rfl
/-- the sample ends -/
theorem h_less {ca : Nat → Bool} {n M j : Nat} (hn : n ≤ 12) (h : 0 < lefS ca n M j) : lefS ca n M (j + 1) < lefS ca n M j := by
  obtain ⟨b, h1, h2, h3, h4⟩ := bstP_some hn h
  rw [lefS_succ, ← h3]
  omega
theorem h_sm_ex {σ : Sg} (h : WF σ) : ∀ k j, lefS (candB σ) (sN σ) (M2 σ) j ≤ k → (∀ i, i < j → 0 < lefS (candB σ) (sN σ) (M2 σ) i) → ∃ j', isSm σ j' ∧ j' ≤ j + k
  | 0, j, h1, h2 => ⟨j, ⟨by omega, h2⟩, by omega⟩
  | k + 1, j, h1, h2 => by
    rcases Nat.eq_zero_or_pos (lefS (candB σ) (sN σ) (M2 σ) j) with q | q
    · exact ⟨j, ⟨q, h2⟩, by omega⟩
    · have h3 := h_less h.2.1 q
      obtain ⟨j', a, b⟩ := h_sm_ex h k (j + 1) (by omega) (fun i hi => by
        rcases Nat.lt_or_ge i j with z | z
        · exact h2 i z
        · rw [show i = j by omega]; exact q)
      exact ⟨j', a, by omega⟩
theorem h_sm {σ : Sg} (h : WF σ) : isSm σ (smC σ) ∧ smC σ ≤ 264 := by
  obtain ⟨j, a, b⟩ := h_sm_ex h 264 0 (by have := lef_264 (candB σ) (M2 σ) h.2.1; omega) (fun i hi => absurd hi (Nat.not_lt_zero i))
  rw [smC_eq a]
  exact ⟨a, by omega⟩
theorem h_smp {σ : Sg} (h : WF σ) {i : Nat} (hi : i < smC σ) : smpS (candB σ) (sN σ) (M2 σ) i < M2 σ ∧ candB σ (smpS (candB σ) (sN σ) (M2 σ) i) = true ∧ 0 < shN (misS (candB σ) (sN σ) (M2 σ) i) (sN σ) (smpS (candB σ) (sN σ) (M2 σ) i) := by
  obtain ⟨b, h1, h2, h3, h4⟩ := bstP_some h.2.1 ((h_sm h).1.2 i hi)
  obtain ⟨-, hca, -, -⟩ := (bstP_ok (candB σ) (misS (candB σ) (sN σ) (M2 σ) i) (sN σ) (M2 σ)).2.1 b h1
  rw [← h3]
  exact ⟨h2, hca, h4⟩
theorem Dsm_iff {ca : Nat → Bool} {n M q : Nat} : ∀ {j : Nat}, Dsm ca n M j q = true ↔ ∃ i, i < j ∧ pshB n (smpS ca n M i) q = true
  | 0 => ⟨fun z => absurd z Bool.false_ne_true, fun ⟨i, hi, _⟩ => absurd hi (Nat.not_lt_zero i)⟩
  | j + 1 => by
    show (Dsm ca n M j q || pshB n (smpS ca n M j) q) = true ↔ _
    rw [Bool.or_eq_true, Dsm_iff (j := j)]
    constructor
    · rintro (⟨i, a, b⟩ | b)
      · exact ⟨i, by omega, b⟩
      · exact ⟨j, by omega, b⟩
    · rintro ⟨i, a, b⟩
      rcases Nat.lt_or_ge i j with z | z
      · exact Or.inl ⟨i, z, b⟩
      · rw [show i = j by omega] at b; exact Or.inr b
/-- at its end the sample shows what is possible -/
theorem h_all {σ : Sg} (h : WF σ) : fb_ct (Dsm (candB σ) (sN σ) (M2 σ) (smC σ)) 576 = posC σ := by
  have h1 := (h_sm h).1.1
  rw [lefS_ct _ _ h.2.1] at h1
  have h2 := fb_ct_zero.mp h1
  refine fb_ct_cong (fun q hq => ?_)
  have h3 := h2 q hq
  rw [mis_D] at h3
  apply bool_eq
  constructor
  · intro hd
    obtain ⟨i, a, b⟩ := Dsm_iff.mp hd
    obtain ⟨c1, c2, -⟩ := h_smp h a
    exact anyN_iff.mpr ⟨_, c1, by rw [c2, b]; rfl⟩
  · intro hp
    rw [hp, Bool.true_and] at h3
    cases hd : Dsm (candB σ) (sN σ) (M2 σ) (smC σ) q with
    | true => rfl
    | false => rw [hd] at h3; exact absurd h3 (by decide)
theorem h_pairs {σ : Sg} (h : WF σ) {gf : Nat → Nat} (hg : GOK (sN σ) gf (TS σ (smC σ) 0 0)) : fb_sm (fun j => popc (gf j)) 49 = posC σ := by
  rw [hg.2.2, ← h_all h]
  exact fb_ct_cong (fun q _ => by unfold TS; rw [seen_0, Bool.or_false])
theorem shN_ex {mi : Nat → Bool} {n c : Nat} (h : 0 < shN mi n c) : ∃ a b, a < b ∧ b < n ∧ mi (prK c a b) = true := by
  have h1 : ∃ a, a < n ∧ 0 < fb_ct (fun b => decide (a < b) && mi (prK c a b)) n := by
    rcases Classical.em (∃ a, a < n ∧ 0 < fb_ct (fun b => decide (a < b) && mi (prK c a b)) n) with q | q
    · exact q
    · have e : shN mi n c = 0 := by
        show fb_sm _ n = 0
        rw [fb_sm_cong (g := fun _ => 0) (fun a ha => Nat.eq_zero_of_not_pos (fun z => q ⟨a, ha, z⟩)), fb_sm_const, Nat.mul_zero]
      omega
  obtain ⟨a, ha, h2⟩ := h1
  obtain ⟨b, hb, h3⟩ := fb_ct_pos.mp h2
  rw [Bool.and_eq_true, decide_eq_true_eq] at h3
  exact ⟨a, b, h3.1, hb, h3.2⟩
/-- the sample's candidates differ, so they are no more than the candidates -/
theorem h_few {σ : Sg} (h : WF σ) : smC σ ≤ cntC σ := by
  refine fb_holes (cntC σ) (smC σ) (fun i => fb_ct (candB σ) (smpS (candB σ) (sN σ) (M2 σ) i)) (fun i hi => ?_) (fun i j hij hj => ?_)
  · obtain ⟨a, b, -⟩ := h_smp h hi
    exact fb_ct_lt b a
  · intro z
    obtain ⟨a1, b1, -⟩ := h_smp h (show i < smC σ by omega)
    obtain ⟨a2, b2, c2⟩ := h_smp h hj
    have e := fb_ct_kth_one b1 b2 z
    obtain ⟨x, y, hxy, hy, hm⟩ := shN_ex c2
    rw [mis_D, Bool.and_eq_true] at hm
    have hd : Dsm (candB σ) (sN σ) (M2 σ) j (prK (smpS (candB σ) (sN σ) (M2 σ) j) x y) = true := Dsm_iff.mpr ⟨i, hij, by
      rw [psh_key h.2.1 hxy hy, e]; simp⟩
    rw [hd] at hm
    exact absurd hm.2 (by decide)
/-! deciding -/
theorem fit_up1 {n : Nat} {co de : Nat → Nat} {bud : Int32} {c f : Nat} (hf : f < n) (h0 : de f = 0) : fitB n co (va_up de f 1) bud c = (fitB n co de bud c && c.testBit f) := by
  unfold fitB
  apply bool_eq
  rw [fitF_iff, Bool.and_eq_true, fitF_iff]
  constructor
  · rintro ⟨a, b⟩
    refine ⟨⟨a, fun i hi => ?_⟩, ?_⟩
    · by_cases e : i = f
      · rw [e]; exact Or.inl h0
      · have := b i hi
        rw [va_up_ne _ _ e] at this
        exact this
    · have := b f hf
      rw [va_up_self] at this
      rcases this with z | z
      · exact absurd z (by decide)
      · exact z
  · rintro ⟨⟨a, b⟩, d⟩
    refine ⟨a, fun i hi => ?_⟩
    by_cases e : i = f
    · rw [e, va_up_self]; exact Or.inr d
    · rw [va_up_ne _ _ e]; exact b i hi
theorem fit_up2 {n : Nat} {co de : Nat → Nat} {bud : Int32} {c f : Nat} (hf : f < n) (h0 : de f = 0) : fitB n co (va_up de f 2) bud c = (fitB n co de bud c && !c.testBit f) := by
  unfold fitB
  apply bool_eq
  rw [fitF_iff, Bool.and_eq_true, fitF_iff]
  constructor
  · rintro ⟨a, b⟩
    refine ⟨⟨a, fun i hi => ?_⟩, ?_⟩
    · by_cases e : i = f
      · rw [e]; exact Or.inl h0
      · have := b i hi
        rw [va_up_ne _ _ e] at this
        exact this
    · have := b f hf
      rw [va_up_self] at this
      rcases this with z | z
      · exact absurd z (by decide)
      · rw [z]; rfl
  · rintro ⟨⟨a, b⟩, d⟩
    refine ⟨a, fun i hi => ?_⟩
    by_cases e : i = f
    · rw [e, va_up_self]
      refine Or.inr ?_
      cases hx : c.testBit f with
      | true => rw [hx] at d; exact absurd d (by decide)
      | false => rfl
    · rw [va_up_ne _ _ e]; exact b i hi
theorem cand_dec1 {σ : Sg} {f : Nat} (hf : f < sN σ) (h0 : sD σ f = 0) (c : Nat) : candB (decS σ f 1) c = (candB σ c && c.testBit f) := by
  show (prodB σ c && fitB (sN σ) (sC σ) (va_up (sD σ) f 1) (sU σ) c) = _
  rw [fit_up1 hf h0, ← Bool.and_assoc]; rfl
theorem cand_dec2 {σ : Sg} {f : Nat} (hf : f < sN σ) (h0 : sD σ f = 0) (c : Nat) : candB (decS σ f 2) c = (candB σ c && !c.testBit f) := by
  show (prodB σ c && fitB (sN σ) (sC σ) (va_up (sD σ) f 2) (sU σ) c) = _
  rw [fit_up2 hf h0, ← Bool.and_assoc]; rfl
theorem cnt_dec1 {σ : Sg} {f : Nat} (hf : f < sN σ) (h0 : sD σ f = 0) : cntC (decS σ f 1) = cwC σ f := fb_ct_cong (fun c _ => cand_dec1 hf h0 c)
theorem ct_and_not (p q : Nat → Bool) : ∀ n, fb_ct (fun c => p c && q c) n + fb_ct (fun c => p c && !q c) n = fb_ct p n
  | 0 => rfl
  | n + 1 => by
    have ih := ct_and_not p q n
    rw [fb_ct_succ, fb_ct_succ, fb_ct_succ]
    cases p n <;> cases q n <;> simp <;> omega
theorem cnt_dec2 {σ : Sg} {f : Nat} (hf : f < sN σ) (h0 : sD σ f = 0) : cwC σ f + cntC (decS σ f 2) = cntC σ := by
  have e : cntC (decS σ f 2) = fb_ct (fun c => candB σ c && !c.testBit f) (M2 σ) := fb_ct_cong (fun c _ => cand_dec2 hf h0 c)
  rw [e]
  exact ct_and_not (candB σ) (fun c => c.testBit f) (M2 σ)
theorem dec_dec (σ : Sg) (f a b : Nat) : decS (decS σ f a) f b = decS σ f b := by
  have e : va_up (va_up (sD σ) f a) f b = va_up (sD σ) f b := bx_uu _ _ _ _
  exact congrArg (fun d => ((sN σ, sP σ, sR σ, sC σ, sV σ, d, sK σ, sKd σ, sA σ, sB σ, sO σ, sU σ) : Sg)) e
theorem up_id {α : Type} (g : Nat → α) {k : Nat} {v : α} (h : g k = v) : va_up g k v = g := funext (fun j => by
  unfold va_up
  split
  · rename_i e; rw [e, h]
  · rfl)
theorem dec_back {σ : Sg} {f a : Nat} (h0 : sD σ f = 0) : decS (decS σ f a) f 0 = σ := by
  rw [dec_dec]
  unfold decS
  rw [up_id (sD σ) h0]; rfl
theorem sD_dec (σ : Sg) (f a : Nat) : sD (decS σ f a) f = a := va_up_self _ _ _
/-! what is forced, what is ruled out -/
theorem for_bit {σ : Sg} {f : Nat} (hf : f < sN σ) : (r_for σ).testBit f = (!decide (cntC σ = 0) && (decide (sD σ f = 0) && decide (cwC σ f = cntC σ))) := by
  unfold r_for
  split
  · rename_i h; rw [Nat.zero_testBit, decide_eq_true h]; rfl
  · rename_i h; unfold opnS; rw [maskN_bit, decide_eq_true hf, decide_eq_false h]; rfl
theorem rul_bit {σ : Sg} {f : Nat} (hf : f < sN σ) : (r_rul σ).testBit f = (!decide (cntC σ = 0) && (decide (sD σ f = 0) && decide (cwC σ f = 0))) := by
  unfold r_rul
  split
  · rename_i h; rw [Nat.zero_testBit, decide_eq_true h]; rfl
  · rename_i h; unfold opnS; rw [maskN_bit, decide_eq_true hf, decide_eq_false h]; rfl
theorem for_lt {σ : Sg} (h : WF σ) : r_for σ < 4096 := by
  unfold r_for
  split
  · decide
  · exact maskN_lt' (m := 12) _ h.2.1
theorem rul_lt {σ : Sg} (h : WF σ) : r_rul σ < 4096 := by
  unfold r_rul
  split
  · decide
  · exact maskN_lt' (m := 12) _ h.2.1
theorem for_rul (σ : Sg) : r_for σ &&& r_rul σ = 0 := by
  unfold r_for r_rul
  split
  · rfl
  · rename_i h
    refine bit_ext (fun i => ?_)
    unfold opnS
    rw [Nat.testBit_and, maskN_bit, maskN_bit, Nat.zero_testBit]
    by_cases e : cwC σ i = 0
    · rw [decide_eq_false (show ¬ cwC σ i = cntC σ by omega), Bool.and_false, Bool.and_false, Bool.false_and]
    · rw [decide_eq_false e, Bool.and_false, Bool.and_false, Bool.and_false]
/-- a feature that is forced or ruled out, and the way in which it is -/
def wayN (σ : Sg) (f : Nat) : Nat := if (r_for σ).testBit f = true then 1 else 2
theorem h_way {σ : Sg} {f : Nat} (hf : f < sN σ) (h : (r_for σ).testBit f = true ∨ (r_rul σ).testBit f = true) : sD σ f = 0 ∧ cntC (decS σ f (wayN σ f)) = cntC σ ∧ cntC (decS σ f (3 - wayN σ f)) = 0 := by
  unfold wayN
  by_cases h1 : (r_for σ).testBit f = true
  · rw [if_pos h1]
    rw [for_bit hf, Bool.and_eq_true, Bool.and_eq_true, decide_eq_true_eq, decide_eq_true_eq] at h1
    obtain ⟨-, h0, hc⟩ := h1
    have e2 := cnt_dec2 hf h0
    refine ⟨h0, (cnt_dec1 hf h0).trans hc, ?_⟩
    show cntC (decS σ f 2) = 0
    omega
  · rw [if_neg h1]
    have h2 := h.resolve_left h1
    rw [rul_bit hf, Bool.and_eq_true, Bool.and_eq_true, decide_eq_true_eq, decide_eq_true_eq] at h2
    obtain ⟨-, h0, hc⟩ := h2
    have e2 := cnt_dec2 hf h0
    refine ⟨h0, by omega, ?_⟩
    show cntC (decS σ f 1) = 0
    rw [cnt_dec1 hf h0]; exact hc
/-! the question -/
theorem qu_some {σ : Sg} : ∀ {i f : Nat}, (quP σ i).1 = some f → f < i ∧ cwC σ f ≠ 0 ∧ cwC σ f ≠ cntC σ
  | 0, f, h => nomatch h
  | i + 1, f, h => by
    by_cases hc : cwC σ i = 0 ∨ cwC σ i = cntC σ ∨ ((quP σ i).1 ≠ none ∧ (quP σ i).2 ≤ dfN (cwC σ i) (cntC σ))
    · rw [quP_keep hc] at h
      obtain ⟨a, b⟩ := qu_some h
      exact ⟨by omega, b⟩
    · rw [quP_take hc] at h
      have e : i = f := Option.some.inj h
      subst e
      exact ⟨by omega, fun z => hc (Or.inl z), fun z => hc (Or.inr (Or.inl z))⟩
theorem qu_none {σ : Sg} : ∀ {i : Nat}, (quP σ i).1 = none → ∀ f, f < i → cwC σ f = 0 ∨ cwC σ f = cntC σ
  | 0, _, f, hf => absurd hf (Nat.not_lt_zero f)
  | i + 1, h, f, hf => by
    by_cases hc : cwC σ i = 0 ∨ cwC σ i = cntC σ ∨ ((quP σ i).1 ≠ none ∧ (quP σ i).2 ≤ dfN (cwC σ i) (cntC σ))
    · rw [quP_keep hc] at h
      rcases Nat.lt_or_ge f i with z | z
      · exact qu_none h f z
      · rw [show f = i by omega]
        rcases hc with a | a | a
        · exact Or.inl a
        · exact Or.inr a
        · exact absurd h a.1
    · rw [quP_take hc] at h
      exact nomatch h
theorem cw_pos {σ : Sg} {f : Nat} (h : cwC σ f ≠ 0) : ∃ c, c < M2 σ ∧ candB σ c = true ∧ c.testBit f = true := by
  obtain ⟨c, h1, h2⟩ := fb_ct_pos.mp (Nat.pos_of_ne_zero h)
  rw [Bool.and_eq_true] at h2
  exact ⟨c, h1, h2.1, h2.2⟩
theorem cw_not {σ : Sg} {f : Nat} (h : cwC σ f ≠ cntC σ) : ∃ c, c < M2 σ ∧ candB σ c = true ∧ c.testBit f = false := by
  rcases Classical.em (∃ c, c < M2 σ ∧ candB σ c = true ∧ c.testBit f = false) with q | q
  · exact q
  · exact absurd (ct_full.mpr (fun c hc hp => by
      cases hx : c.testBit f with
      | true => rfl
      | false => exact absurd ⟨c, hc, hp, hx⟩ q)) h
theorem h_open {σ : Sg} (h : WF σ) {f : Nat} (hf : f < sN σ) (h1 : cwC σ f ≠ 0) (h2 : cwC σ f ≠ cntC σ) : sD σ f = 0 := by
  obtain ⟨c, -, a1, a2⟩ := cw_pos h1
  obtain ⟨d, -, b1, b2⟩ := cw_not h2
  have e1 := ((fitF_iff _ _ _ _).mp (h_fit a1)).2 f hf
  have e2 := ((fitF_iff _ _ _ _).mp (h_fit b1)).2 f hf
  rw [a2] at e1
  rw [b2] at e2
  rcases e1 with e1 | e1
  · exact e1
  · rcases e2 with e2 | e2
    · exact e2
    · rw [← e1] at e2; exact absurd e2 (by decide)
theorem h_qu {σ : Sg} (h : WF σ) {f : Nat} (hq : (quP σ (sN σ)).1 = some f) : f < sN σ ∧ sD σ f = 0 ∧ cntC (decS σ f 1) ≠ 0 ∧ cntC (decS σ f 1) ≠ cntC σ ∧ cntC (decS σ f 1) + cntC (decS σ f 2) = cntC σ := by
  obtain ⟨a, b, d⟩ := qu_some hq
  have h0 := h_open h a b d
  rw [cnt_dec1 a h0]
  exact ⟨a, h0, b, d, cnt_dec2 a h0⟩
theorem h_qn {σ : Sg} (hq : (quP σ (sN σ)).1 = none) : cntC σ ≤ 1 := by
  rcases Nat.lt_or_ge 1 (cntC σ) with q | q
  · exfalso
    obtain ⟨a1, a2⟩ := h_nth (σ := σ) (i := 0) (by omega)
    obtain ⟨b1, b2⟩ := h_nth (σ := σ) (i := 1) q
    have hlt := h_asc (p := candB σ) (M := M2 σ) (show 0 < 1 by decide) q
    generalize nthN (candB σ) 0 (M2 σ) = x at a1 a2 hlt
    generalize nthN (candB σ) 1 (M2 σ) = y at b1 b2 hlt
    have e : x = y := bit_ext (fun i => by
      rcases Nat.lt_or_ge i (sN σ) with hi | hi
      · rcases qu_none hq i hi with z | z
        · have z1 := fb_ct_zero.mp z
          have c1 := z1 x a1
          have c2 := z1 y b1
          rw [a2, Bool.true_and] at c1
          rw [b2, Bool.true_and] at c2
          rw [c1, c2]
        · have z1 := ct_full.mp z
          rw [z1 x a1 a2, z1 y b1 b2]
      · rw [Nat.testBit_lt_two_pow (Nat.lt_of_lt_of_le a1 (Nat.pow_le_pow_right (by decide) hi)), Nat.testBit_lt_two_pow (Nat.lt_of_lt_of_le b1 (Nat.pow_le_pow_right (by decide) hi))])
    omega
  · exact q
/-! turning a constraint off and on -/
theorem mask_0 {p : Nat → Bool} {n : Nat} : maskN p n = 0 ↔ ∀ i, i < n → p i = false := by
  constructor
  · intro h i hi
    have h1 := maskN_bit p i n
    rw [h, Nat.zero_testBit, decide_eq_true hi, Bool.true_and] at h1
    exact h1.symm
  · intro h
    refine bit_ext (fun i => ?_)
    rw [maskN_bit, Nat.zero_testBit]
    by_cases hi : i < n
    · rw [h i hi, Bool.and_false]
    · rw [decide_eq_false hi, Bool.false_and]
theorem prod_off {σ : Sg} {k c : Nat} (h : prodB σ c = true) : prodB (trnS σ k false) c = true := by
  unfold prodB at h
  rw [Bool.and_eq_true, decide_eq_true_eq, decide_eq_true_eq] at h
  have h1 := mask_0.mp h.2
  have e : cnN (sKd σ) (sA σ) (sB σ) (va_up (sO σ) k false) c (sK σ) = 0 := mask_0.mpr (fun i hi => by
    have h2 := h1 i hi
    unfold brB at h2 ⊢
    by_cases z : i = k
    · rw [z, va_up_self, Bool.false_and]
    · rw [va_up_ne _ _ z]; exact h2)
  show (decide (treeN (sN σ) (sP σ) (sR σ) c = 0) && decide (cnN (sKd σ) (sA σ) (sB σ) (va_up (sO σ) k false) c (sK σ) = 0)) = true
  rw [h.1, e]; rfl
theorem cnt_off (σ : Sg) (k : Nat) : cntP σ ≤ cntP (trnS σ k false) := fb_ct_sub (fun _ _ h => prod_off h)
theorem trn_back {σ : Sg} {k : Nat} (h : sO σ k = true) : trnS (trnS σ k false) k true = σ := by
  have e : va_up (va_up (sO σ) k false) k true = sO σ := (bx_uu _ _ _ _).trans (up_id (sO σ) h)
  exact congrArg (fun o => ((sN σ, sP σ, sR σ, sC σ, sV σ, sD σ, sK σ, sKd σ, sA σ, sB σ, o, sU σ) : Sg)) e
theorem sO_trn (σ : Sg) (k : Nat) (b : Bool) : sO (trnS σ k b) k = b := va_up_self _ _ _
