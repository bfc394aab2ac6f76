/-! the ladder of values and the board of pairs -/
def ladF (p : Nat → Bool) (cs vs : Nat → Nat) : Nat → Nat → Int32
  | 0 => fun _ => -1
  | c + 1 => if p c = true then upd (ladF p cs vs c) (cs c) (mxI (ladF p cs vs c (cs c)) (nI (vs c))) else ladF p cs vs c
theorem ladF_no {p : Nat → Bool} {cs vs : Nat → Nat} (c : Nat) (h : p c = false) : ladF p cs vs (c + 1) = ladF p cs vs c := by
  show (if p c = true then _ else _) = _
  rw [if_neg (by rw [h]; decide)]
theorem ladF_yes {p : Nat → Bool} {cs vs : Nat → Nat} {c : Nat} (h : p c = true) : ladF p cs vs (c + 1) = upd (ladF p cs vs c) (cs c) (mxI (ladF p cs vs c (cs c)) (nI (vs c))) := by
  show (if p c = true then _ else _) = _
  rw [if_pos h]
theorem mxI_l (x y : Int32) : x ≤ mxI x y := by
  unfold mxI
  split
  · rename_i h; exact Int32.le_of_lt h
  · exact Int32.le_refl x
theorem mxI_r (x y : Int32) : y ≤ mxI x y := by
  unfold mxI
  split
  · exact Int32.le_refl y
  · rename_i h; exact Int32.not_lt.mp h
theorem mxI_or (x y : Int32) : mxI x y = x ∨ mxI x y = y := by
  unfold mxI
  split
  · exact Or.inr rfl
  · exact Or.inl rfl
theorem upd_at {f : Nat → Int32} {k : Nat} {x : Int32} : upd f k x k = x := by simp [upd]
theorem upd_ne {f : Nat → Int32} {k j : Nat} {x : Int32} (h : j ≠ k) : upd f k x j = f j := by simp [upd, h]
theorem lad_up {p : Nat → Bool} {cs vs : Nat → Nat} : ∀ {M o : Nat}, o < M → p o = true → nI (vs o) ≤ ladF p cs vs M (cs o)
  | 0, o, h, _ => absurd h (Nat.not_lt_zero o)
  | M + 1, o, h, hp => by
    by_cases hM : p M = true
    · rw [ladF_yes hM]
      by_cases hk : cs o = cs M
      · rw [hk, upd_at]
        rcases Nat.lt_or_ge o M with q | q
        · have := lad_up (cs := cs) (vs := vs) q hp
          rw [hk] at this
          exact Int32.le_trans this (mxI_l _ _)
        · rw [show o = M by omega]; exact mxI_r _ _
      · rw [upd_ne hk]
        rcases Nat.lt_or_ge o M with q | q
        · exact lad_up q hp
        · exact absurd (by rw [show o = M by omega]) hk
    · have hM' : p M = false := by simpa using hM
      rw [ladF_no M hM']
      rcases Nat.lt_or_ge o M with q | q
      · exact lad_up q hp
      · rw [show o = M by omega] at hp; exact absurd hp hM
theorem lad_of {p : Nat → Bool} {cs vs : Nat → Nat} (k : Nat) : ∀ M : Nat, ladF p cs vs M k = -1 ∨ ∃ o, o < M ∧ p o = true ∧ cs o = k ∧ ladF p cs vs M k = nI (vs o)
  | 0 => Or.inl rfl
  | M + 1 => by
    have ih := lad_of (p := p) (cs := cs) (vs := vs) k M
    by_cases hM : p M = true
    · rw [ladF_yes hM]
      by_cases hk : k = cs M
      · rw [hk, upd_at]
        rcases mxI_or (ladF p cs vs M (cs M)) (nI (vs M)) with h | h
        · rw [h]
          rw [hk] at ih
          rcases ih with h1 | ⟨o, a, b, c, d⟩
          · exact Or.inl h1
          · exact Or.inr ⟨o, by omega, b, c, d⟩
        · rw [h]; exact Or.inr ⟨M, by omega, hM, rfl, rfl⟩
      · rw [upd_ne hk]
        rcases ih with h1 | ⟨o, a, b, c, d⟩
        · exact Or.inl h1
        · exact Or.inr ⟨o, by omega, b, c, d⟩
    · rw [ladF_no M (by simpa using hM)]
      rcases ih with h1 | ⟨o, a, b, c, d⟩
      · exact Or.inl h1
      · exact Or.inr ⟨o, by omega, b, c, d⟩
theorem lev_hi (f : Nat → Int32) : ∀ i j, i < j → levF f i j = f j
  | 0, j, _ => rfl
  | i + 1, j, h => by rw [levF_succ, upd_ne (by omega)]; exact lev_hi f i j (by omega)
theorem lev_up (f : Nat → Int32) : ∀ i j k, j ≤ k → k ≤ i → f j ≤ levF f i k
  | 0, j, k, h1, h2 => by rw [show j = 0 by omega, show k = 0 by omega]; exact Int32.le_refl _
  | i + 1, j, k, h1, h2 => by
    rw [levF_succ]
    by_cases hk : k = i + 1
    · rw [hk, upd_at]
      rcases Nat.lt_or_ge i j with q | q
      · rw [show j = i + 1 by omega]
        have := mxI_l (levF f i (i + 1)) (levF f i i)
        rw [lev_hi f i (i + 1) (by omega)] at this ⊢
        exact this
      · exact Int32.le_trans (lev_up f i j i q (Nat.le_refl i)) (mxI_r _ _)
    · rw [upd_ne hk]; exact lev_up f i j k h1 (by omega)
theorem lev_of (f : Nat → Int32) : ∀ i k, k ≤ i → ∃ j, j ≤ k ∧ levF f i k = f j
  | 0, k, h => ⟨0, Nat.zero_le _, by rw [show k = 0 by omega]; rfl⟩
  | i + 1, k, h => by
    rw [levF_succ]
    by_cases hk : k = i + 1
    · rw [hk, upd_at]
      rcases mxI_or (levF f i (i + 1)) (levF f i i) with h1 | h1
      · rw [h1, lev_hi f i (i + 1) (by omega)]; exact ⟨i + 1, Nat.le_refl _, rfl⟩
      · rw [h1]
        obtain ⟨j, a, b⟩ := lev_of f i i (Nat.le_refl i)
        exact ⟨j, by omega, b⟩
    · rw [upd_ne hk]
      exact lev_of f i k (by omega)
theorem neg1_lt {n : Nat} (h : n < 2147483648) : (-1 : Int32) < nI n := by
  rw [Int32.lt_iff_toInt_lt, nI_toInt h, show (-1 : Int32).toInt = -1 by decide]
  omega
/-- who stands on a step of the levelled ladder is beaten by no one -/
theorem top_frt {ca : Nat → Bool} {cs vs : Nat → Nat} {M c : Nat} (hc : c < M) (hca : ca c = true) (hcs : ∀ o, cs o ≤ 12000) (hvs : ∀ o, vs o ≤ 12000) : topB (levF (ladF ca cs vs M) 12000) (cs c) (vs c) = frtB ca cs vs c M := by
  have hcc := hcs c
  have u1 : ∀ o k, o < M → ca o = true → cs o ≤ k → k ≤ 12000 → nI (vs o) ≤ levF (ladF ca cs vs M) 12000 k := fun o k h1 h2 h3 h4 => Int32.le_trans (lad_up h1 h2) (lev_up _ _ _ _ h3 h4)
  have u2 : ∀ k, k ≤ 12000 → levF (ladF ca cs vs M) 12000 k = -1 ∨ ∃ o, o < M ∧ ca o = true ∧ cs o ≤ k ∧ levF (ladF ca cs vs M) 12000 k = nI (vs o) := fun k hk => by
    obtain ⟨j, h1, h2⟩ := lev_of (ladF ca cs vs M) 12000 k hk
    rw [h2]
    rcases lad_of (p := ca) (cs := cs) (vs := vs) j M with h | ⟨o, a, b, c, d⟩
    · exact Or.inl h
    · exact Or.inr ⟨o, a, b, by omega, d⟩
  generalize levF (ladF ca cs vs M) 12000 = g at u1 u2
  have hb : ∀ o, vs o < 2147483648 := fun o => by have := hvs o; omega
  apply bool_eq
  unfold topB frtB
  rw [hca, Bool.true_and, Bool.and_eq_true, decide_eq_true_eq, Bool.or_eq_true, decide_eq_true_eq, decide_eq_true_eq, allN_iff]
  constructor
  · rintro ⟨h1, h2⟩ o ho
    unfold nbB
    cases hco : ca o with
    | false => rfl
    | true =>
      rw [Bool.not_true, Bool.false_or, Bool.or_eq_true, Bool.and_eq_true, Bool.or_eq_true]
      simp only [decide_eq_true_eq]
      rcases Nat.lt_or_ge (cs c) (cs o) with q | q
      · exact Or.inr (Or.inl q)
      · have h3 := u1 o (cs c) ho hco q hcc
        rw [h1, nI_leI (hb o) (hb c)] at h3
        rcases Nat.lt_or_ge (cs o) (cs c) with q2 | q2
        · rcases h2 with h2 | h2
          · omega
          · have h4 := u1 o (cs c - 1) ho hco (by omega) (by omega)
            have h5 := Int32.lt_of_le_of_lt h4 h2
            rw [nI_ltI (hb o) (hb c)] at h5
            exact Or.inr (Or.inr h5)
        · rcases Nat.lt_or_ge (vs o) (vs c) with q3 | q3
          · exact Or.inr (Or.inr q3)
          · exact Or.inl ⟨by omega, by omega⟩
  · intro h
    have hno : ∀ o, o < M → ca o = true → cs o ≤ cs c → (cs o = cs c ∧ vs o = vs c) ∨ vs o < vs c := fun o ho hco hle => by
      have h1 := h o ho
      unfold nbB at h1
      rw [hco, Bool.not_true, Bool.false_or, Bool.or_eq_true, Bool.and_eq_true, Bool.or_eq_true] at h1
      simp only [decide_eq_true_eq] at h1
      omega
    constructor
    · have h1 := u1 c (cs c) hc hca (Nat.le_refl _) hcc
      rcases u2 (cs c) hcc with h2 | ⟨o, a, b, d, e⟩
      · rw [h2] at h1
        exact absurd h1 (Int32.not_le.mpr (neg1_lt (hb c)))
      · rw [e, nI_leI (hb c) (hb o)] at h1
        have := hno o a b d
        rw [e, show vs o = vs c by omega]
    · by_cases h0 : cs c = 0
      · exact Or.inl h0
      · refine Or.inr ?_
        rcases u2 (cs c - 1) (by omega) with h2 | ⟨o, a, b, d, e⟩
        · rw [h2]; exact neg1_lt (hb c)
        · rw [e, nI_ltI (hb o) (hb c)]
          have := hno o a b (by omega)
          omega
/-- literals -/
theorem lit_eq {a a' c c' : Nat} (ha : a < 12) (ha' : a' < 12) : litN a c = litN a' c' ↔ a = a' ∧ c.testBit a = c'.testBit a' := by
  unfold litN
  cases h : c.testBit a <;> cases h' : c'.testBit a' <;> simp <;> omega
theorem pow_bit (k j : Nat) : (2 ^ k).testBit j = decide (k = j) := Nat.testBit_two_pow
theorem lits_lo {c n f : Nat} (hc : c < 2 ^ n) (hn : n ≤ 12) (hf : f < 12) : (litsN c n).testBit f = c.testBit f := by
  unfold litsN
  rw [Nat.testBit_or, Nat.testBit_mul_two_pow, decide_eq_false (show ¬ 12 ≤ f by omega), Bool.false_and, Bool.or_false]
theorem lits_hi {c n f : Nat} (hc : c < 2 ^ n) (hn : n ≤ 12) (hf : f < 12) : (litsN c n).testBit (f + 12) = (decide (f < n) && !c.testBit f) := by
  unfold litsN
  rw [Nat.testBit_or, Nat.testBit_mul_two_pow, decide_eq_true (show 12 ≤ f + 12 by omega), Bool.true_and, show f + 12 - 12 = f by omega, andn_bit, Nat.testBit_two_pow_sub_one,
    Nat.testBit_lt_two_pow (Nat.lt_of_lt_of_le hc (Nat.pow_le_pow_right (by decide) (show n ≤ f + 12 by omega))), Bool.false_or]
theorem lat_lo {c n f : Nat} (hc : c < 2 ^ n) (hn : n ≤ 12) (hf : f < 12) : ∀ i, i ≤ 12 → (latN c n i).testBit f = (c.testBit f && decide (i ≤ f))
  | 0, _ => by rw [decide_eq_true (Nat.zero_le f), Bool.and_true]; exact lits_lo hc hn hf
  | i + 1, hi => by
    rw [latN_succ, andn_bit, lat_lo hc hn hf i (by omega), pow_bit]
    have h := lit_eq (a := i) (a' := f) (c := c) (c' := 2 ^ f) (by omega) hf
    have h2 : litN f (2 ^ f) = f := by unfold litN; rw [pow_bit, decide_eq_true rfl, if_pos rfl]
    rw [h2, pow_bit, decide_eq_true rfl] at h
    by_cases hq : litN i c = f
    · obtain ⟨rfl, hb⟩ := h.mp hq
      rw [decide_eq_true hq, decide_eq_false (show ¬ i + 1 ≤ i by omega), Bool.not_true, Bool.and_false, Bool.and_false]
    · rw [decide_eq_false hq, Bool.not_false, Bool.and_true]
      by_cases hfi : f = i
      · subst hfi
        have hb : c.testBit f = false := by
          cases hx : c.testBit f with
          | false => rfl
          | true => exact absurd (h.mpr ⟨rfl, hx⟩) hq
        rw [hb, Bool.false_and, Bool.false_and]
      · by_cases hle : i ≤ f
        · rw [decide_eq_true hle, decide_eq_true (show i + 1 ≤ f by omega)]
        · rw [decide_eq_false hle, decide_eq_false (show ¬ i + 1 ≤ f by omega)]
theorem lat_hi {c n f : Nat} (hc : c < 2 ^ n) (hn : n ≤ 12) (hf : f < 12) : ∀ i, i ≤ 12 → (latN c n i).testBit (f + 12) = ((decide (f < n) && !c.testBit f) && decide (i ≤ f))
  | 0, _ => by rw [decide_eq_true (Nat.zero_le f), Bool.and_true]; exact lits_hi hc hn hf
  | i + 1, hi => by
    rw [latN_succ, andn_bit, lat_hi hc hn hf i (by omega), pow_bit]
    have h := lit_eq (a := i) (a' := f) (c := c) (c' := 0) (by omega) hf
    have h2 : litN f 0 = f + 12 := by unfold litN; rw [Nat.zero_testBit, if_neg Bool.false_ne_true]
    rw [h2, Nat.zero_testBit] at h
    by_cases hq : litN i c = f + 12
    · obtain ⟨rfl, hb⟩ := h.mp hq
      rw [decide_eq_true hq, decide_eq_false (show ¬ i + 1 ≤ i by omega), Bool.not_true, Bool.and_false, Bool.and_false]
    · rw [decide_eq_false hq, Bool.not_false, Bool.and_true]
      by_cases hfi : f = i
      · subst hfi
        have hb : c.testBit f = true := by
          cases hx : c.testBit f with
          | true => rfl
          | false => exact absurd (h.mpr ⟨rfl, hx⟩) hq
        rw [hb, Bool.not_true, Bool.and_false, Bool.false_and, Bool.false_and]
      · by_cases hle : i ≤ f
        · rw [decide_eq_true hle, decide_eq_true (show i + 1 ≤ f by omega)]
        · rw [decide_eq_false hle, decide_eq_false (show ¬ i + 1 ≤ f by omega)]
/-- the literal of a feature in one configuration, among the later ones of another -/
theorem lat_lit {c c' n b : Nat} (hc : c < 2 ^ n) (hn : n ≤ 12) (hb : b < n) {i : Nat} (hi : i ≤ 12) : (latN c n i).testBit (litN b c') = (decide (i ≤ b) && (c'.testBit b == c.testBit b)) := by
  unfold litN
  cases h' : c'.testBit b with
  | true =>
    rw [if_pos rfl, lat_lo hc hn (by omega) i hi]
    cases c.testBit b <;> cases decide (i ≤ b) <;> rfl
  | false =>
    rw [if_neg Bool.false_ne_true, lat_hi hc hn (by omega) i hi, decide_eq_true hb]
    cases c.testBit b <;> cases decide (i ≤ b) <;> rfl
theorem lat_ct {c n s a : Nat} (hc : c < 2 ^ n) (hn : n ≤ 12) (ha : a < n) : popc (andn (latN c n (a + 1)) s) = fb_ct (fun b => decide (a < b) && !s.testBit (litN b c)) n := by
  have hl := latN_lt (Nat.lt_of_lt_of_le hc (pow12 hn)) hn (a + 1)
  rw [popc_ct (n := 24) (Nat.lt_of_le_of_lt (andn_le _ _) hl) (by decide), fb_ct_split _ 12 12]
  rw [fb_ct_cong (q := fun f => (c.testBit f && decide (a + 1 ≤ f)) && !s.testBit f) (fun f hf => by rw [andn_bit, lat_lo hc hn hf _ (by omega)])]
  rw [fb_ct_cong (p := fun k => (andn (latN c n (a + 1)) s).testBit (12 + k)) (q := fun f => ((decide (f < n) && !c.testBit f) && decide (a + 1 ≤ f)) && !s.testBit (f + 12)) (fun f hf => by rw [Nat.add_comm 12 f, andn_bit, lat_hi hc hn hf _ (by omega)])]
  rw [← fb_ct_or (fun f hf => by
    rintro ⟨h1, h2⟩
    simp only [Bool.and_eq_true] at h1 h2
    rw [h1.1.1] at h2
    simp at h2)]
  have h3 := fb_ct_split (fun f => (c.testBit f && decide (a + 1 ≤ f)) && !s.testBit f || ((decide (f < n) && !c.testBit f) && decide (a + 1 ≤ f)) && !s.testBit (f + 12)) n (12 - n)
  rw [show n + (12 - n) = 12 by omega] at h3
  rw [h3, fb_ct_zero (n := 12 - n).mpr (fun k _ => by
    have e1 : c.testBit (n + k) = false := Nat.testBit_lt_two_pow (Nat.lt_of_lt_of_le hc (Nat.pow_le_pow_right (by decide) (Nat.le_add_right n k)))
    rw [e1, decide_eq_false (show ¬ n + k < n by omega)]; rfl), Nat.add_zero]
  refine fb_ct_cong (fun f hf => ?_)
  rw [decide_eq_true hf]
  unfold litN
  by_cases h5 : a < f
  · rw [decide_eq_true h5, decide_eq_true (show a + 1 ≤ f by omega)]
    cases hx : c.testBit f
    · rw [if_neg Bool.false_ne_true]; simp
    · rw [if_pos rfl]; simp
  · rw [decide_eq_false h5, decide_eq_false (show ¬ a + 1 ≤ f by omega)]
    cases c.testBit f <;> simp
theorem frN_sm (sh : Nat → Nat) (c n : Nat) : ∀ i, frN sh c n i = fb_sm (fun a => popc (andn (latN c n (a + 1)) (sh (litN a c)))) i
  | 0 => rfl
  | i + 1 => by rw [frN_succ, fb_sm_succ, frN_sm sh c n i]
/-- the board says which pairs have been shown -/
def BdOK (n : Nat) (sh : Nat → Nat) (D : Nat → Bool) : Prop := ∀ c a b, a < b → b < n → (sh (litN a c)).testBit (litN b c) = D (prK c a b)
theorem Bd_0 (n : Nat) : BdOK n (fun _ => 0) (fun _ => false) := fun _ _ _ _ _ => Nat.zero_testBit _
theorem fr_sh {n c : Nat} {sh : Nat → Nat} {D : Nat → Bool} (h : BdOK n sh D) (hc : c < 2 ^ n) (hn : n ≤ 12) : frN sh c n n = shN (fun q => !D q) n c := by
  rw [frN_sm]
  refine fb_sm_cong (fun a ha => ?_)
  rw [lat_ct hc hn ha]
  refine fb_ct_cong (fun b hb => ?_)
  by_cases hab : a < b
  · rw [h c a b hab hb]
  · rw [decide_eq_false hab, Bool.false_and, Bool.false_and]
theorem prK_eq {c c' a b : Nat} : prK c a b = prK c' a b ↔ c.testBit a = c'.testBit a ∧ c.testBit b = c'.testBit b := by
  unfold prK
  cases c.testBit a <;> cases c'.testBit a <;> cases c.testBit b <;> cases c'.testBit b <;> simp <;> omega
theorem psh_key {n c c' a b : Nat} (hn : n ≤ 12) (hab : a < b) (hb : b < n) : pshB n c (prK c' a b) = ((c'.testBit a == c.testBit a) && (c'.testBit b == c.testBit b)) := by
  apply bool_eq
  rw [Bool.and_eq_true, beq_iff_eq, beq_iff_eq]
  constructor
  · intro h
    obtain ⟨a', ha', h1⟩ := anyN_iff.mp h
    obtain ⟨b', hb', h2⟩ := anyN_iff.mp h1
    rw [Bool.and_eq_true] at h2
    have h3 := of_decide_eq_true h2.2
    have h4 : a' = a ∧ b' = b := by
      have e1 : prK c a' b' / 4 = 12 * a' + b' := by unfold prK; split <;> split <;> omega
      have e2 : prK c' a b / 4 = 12 * a + b := by unfold prK; split <;> split <;> omega
      rw [h3, e2] at e1
      omega
    obtain ⟨rfl, rfl⟩ := h4
    obtain ⟨e1, e2⟩ := prK_eq.mp h3
    exact ⟨e1.symm, e2.symm⟩
  · rintro ⟨e1, e2⟩
    exact anyN_iff.mpr ⟨a, by omega, anyN_iff.mpr ⟨b, hb, by rw [decide_eq_true hab, decide_eq_true (prK_eq.mpr ⟨e1.symm, e2.symm⟩)]; rfl⟩⟩
theorem shw_lit {sh : Nat → Nat} {c n : Nat} (hn : n ≤ 12) (c' : Nat) {a : Nat} (ha : a < n) : ∀ i, i ≤ n → shwF sh c n i (litN a c') = if a < i ∧ c'.testBit a = c.testBit a then sh (litN a c') ||| latN c n (a + 1) else sh (litN a c')
  | 0, _ => by rw [if_neg (fun z => absurd z.1 (Nat.not_lt_zero a))]; rfl
  | i + 1, hi => by
    have ih := shw_lit (sh := sh) (c := c) hn c' ha i (by omega)
    rw [shwF_succ]
    have hle := lit_eq (a := a) (a' := i) (c := c') (c' := c) (by omega) (by omega)
    by_cases hq : litN a c' = litN i c
    · obtain ⟨rfl, hb⟩ := hle.mp hq
      rw [if_pos ⟨by omega, hb⟩, ← hq]
      have e : ∀ v, va_up (shwF sh c n a) (litN a c') v (litN a c') = v := fun v => by simp [va_up]
      rw [e, ih, if_neg (fun z => absurd z.1 (Nat.lt_irrefl a))]
    · have e : ∀ v, va_up (shwF sh c n i) (litN i c) v (litN a c') = shwF sh c n i (litN a c') := fun v => by simp [va_up, hq]
      rw [e, ih]
      by_cases h2 : a < i ∧ c'.testBit a = c.testBit a
      · rw [if_pos h2, if_pos ⟨by omega, h2.2⟩]
      · rw [if_neg h2, if_neg (fun z => by
          rcases Nat.lt_or_ge a i with q | q
          · exact h2 ⟨q, z.2⟩
          · have e9 : a = i := by omega
            subst e9
            exact hq (hle.mpr ⟨rfl, z.2⟩))]
theorem Bd_show {n c : Nat} {sh : Nat → Nat} {D : Nat → Bool} (h : BdOK n sh D) (hc : c < 2 ^ n) (hn : n ≤ 12) : BdOK n (shwF sh c n n) (fun q => D q || pshB n c q) := fun c' a b hab hb => by
  show _ = (D (prK c' a b) || pshB n c (prK c' a b))
  rw [shw_lit hn c' (show a < n by omega) n (Nat.le_refl n), psh_key hn hab hb]
  by_cases h2 : c'.testBit a = c.testBit a
  · rw [if_pos ⟨by omega, h2⟩, Nat.testBit_or, h c' a b hab hb, lat_lit hc hn hb (by omega), decide_eq_true (show a + 1 ≤ b by omega), Bool.true_and, beq_iff_eq.mpr h2, Bool.true_and]
  · rw [if_neg (fun z => h2 z.2), h c' a b hab hb, beq_eq_false_iff_ne.mpr h2, Bool.false_and, Bool.or_false]
theorem Bd_cong {n : Nat} {sh : Nat → Nat} {D E : Nat → Bool} (h : BdOK n sh D) (e : ∀ q, D q = E q) : BdOK n sh E := fun c a b h1 h2 => by rw [← e]; exact h c a b h1 h2
theorem ct_show {n : Nat} (c : Nat) (D : Nat → Bool) (hn : n ≤ 12) : fb_ct (fun q => D q || pshB n c q) 576 = fb_ct D 576 + shN (fun q => !D q) n c := by
  have h1 := ct_psh (fun q => !D q) c hn
  have h2 := fb_ct_not D 576
  have h3 := fb_ct_not (fun q => D q || pshB n c q) 576
  rw [show (fun q => !(D q || pshB n c q)) = (fun q => !D q && !pshB n c q) from funext (fun q => Bool.not_or _ _)] at h3
  omega
def keyQ (q : Nat) : Bool := decide (q / 48 < q / 4 % 12)
theorem key_264 : fb_ct keyQ 576 = 264 := by decide +kernel
theorem pos_key {ca : Nat → Bool} {n M q : Nat} (hn : n ≤ 12) (h : posB ca n M q = true) : keyQ q = true := by
  obtain ⟨c, hc, h1⟩ := anyN_iff.mp h
  rw [Bool.and_eq_true] at h1
  obtain ⟨a, ha, h2⟩ := anyN_iff.mp h1.2
  obtain ⟨b, hb, h3⟩ := anyN_iff.mp h2
  rw [Bool.and_eq_true] at h3
  have h4 := of_decide_eq_true h3.1
  have h5 := of_decide_eq_true h3.2
  have e1 : prK c a b / 4 = 12 * a + b := by unfold prK; split <;> split <;> omega
  unfold keyQ
  rw [← h5]
  apply decide_eq_true
  omega
theorem pos_264 (ca : Nat → Bool) {n : Nat} (M : Nat) (hn : n ≤ 12) : fb_ct (posB ca n M) 576 ≤ 264 := by
  rw [← key_264]
  exact fb_ct_sub (fun k _ hk => pos_key hn hk)
def Dsm (ca : Nat → Bool) (n M : Nat) : Nat → Nat → Bool
  | 0 => fun _ => false
  | j + 1 => fun q => Dsm ca n M j q || pshB n (smpS ca n M j) q
theorem mis_D (ca : Nat → Bool) (n M q : Nat) : ∀ j, misS ca n M j q = (posB ca n M q && !Dsm ca n M j q)
  | 0 => (Bool.and_true _).symm
  | j + 1 => by
    rw [misS_succ, mis_D ca n M q j]
    show _ = (posB ca n M q && !(Dsm ca n M j q || pshB n (smpS ca n M j) q))
    rw [Bool.not_or, Bool.and_assoc]
theorem sh_cand {ca : Nat → Bool} {n M c : Nat} (hn : n ≤ 12) (hc : c < M) (hca : ca c = true) (j : Nat) : shN (misS ca n M j) n c = shN (fun q => !Dsm ca n M j q) n c := by
  refine fb_sm_cong (fun a ha => fb_ct_cong (fun b hb => ?_))
  by_cases hab : a < b
  · have e : posB ca n M (prK c a b) = true := anyN_iff.mpr ⟨c, hc, by rw [hca, psh_key hn hab hb]; simp⟩
    rw [mis_D, e, Bool.true_and]
  · rw [decide_eq_false hab, Bool.false_and, Bool.false_and]
/-- the first of the most telling ones -/
theorem mst_eq {ca : Nat → Bool} {mi : Nat → Bool} {n : Nat} {D : Nat → Bool} {M : Nat} (hD : ∀ c, c < M → ca c = true → shN mi n c = shN D n c) : ∀ i, i ≤ M → ((bstP ca mi n i).1 = none ∧ ∀ b, fstO ca (fun c b => decide (shN D n b < shN D n c)) i = some b → shN D n b = 0) ∨ (∃ b, (bstP ca mi n i).1 = some b ∧ fstO ca (fun c b => decide (shN D n b < shN D n c)) i = some b ∧ (bstP ca mi n i).2 = shN D n b)
  | 0, _ => Or.inl ⟨rfl, fun b h => nomatch h⟩
  | i + 1, hiM => by
    have ih := mst_eq (mi := mi) (n := n) hD i (by omega)
    have ok := bstP_ok ca mi n i
    cases hi : ca i with
    | false =>
      rw [fstO_no hi, bstP_keep (by rw [hi]; exact Nat.zero_le _)]
      exact ih
    | true =>
      rcases ih with ⟨h1, h2⟩ | ⟨b, h1, h2, h3⟩
      · have hz := ok.1 h1
        by_cases hp : 0 < shN D n i
        · refine Or.inr ⟨i, ?_, ?_, ?_⟩
          · rw [bstP_take (by rw [hi, if_pos rfl, hD i (by omega) hi, hz]; omega)]
          · cases hf : fstO ca (fun c b => decide (shN D n b < shN D n c)) i with
            | none => exact fstO_first hi hf
            | some b => exact fstO_better hi hf (decide_eq_true (by rw [h2 b hf]; exact hp))
          · rw [bstP_take (by rw [hi, if_pos rfl, hD i (by omega) hi, hz]; omega), hi, if_pos rfl]; exact hD i (by omega) hi
        · refine Or.inl ⟨by rw [bstP_keep (by rw [hi, if_pos rfl, hD i (by omega) hi]; omega)]; exact h1, fun b hb => ?_⟩
          cases hf : fstO ca (fun c b => decide (shN D n b < shN D n c)) i with
          | none =>
            rw [fstO_first hi hf] at hb
            rw [← Option.some.inj hb]; omega
          | some b' =>
            rw [fstO_keep hi hf (decide_eq_false (by omega))] at hb
            rw [← Option.some.inj hb]; exact h2 b' hf
      · by_cases hp : shN D n b < shN D n i
        · refine Or.inr ⟨i, ?_, fstO_better hi h2 (decide_eq_true hp), ?_⟩
          · rw [bstP_take (by rw [hi, if_pos rfl, hD i (by omega) hi, h3]; omega)]
          · rw [bstP_take (by rw [hi, if_pos rfl, hD i (by omega) hi, h3]; omega), hi, if_pos rfl]; exact hD i (by omega) hi
        · refine Or.inr ⟨b, ?_, fstO_keep hi h2 (decide_eq_false hp), ?_⟩
          · rw [bstP_keep (by rw [hi, if_pos rfl, hD i (by omega) hi, h3]; omega)]; exact h1
          · rw [bstP_keep (by rw [hi, if_pos rfl, hD i (by omega) hi, h3]; omega)]; exact h3
/-- the walk through the candidates picks the first of the most telling ones -/
theorem mst_some {ca : Nat → Bool} {n M j : Nat} (hn : n ≤ 12) (h : 0 < lefS ca n M j) : ∃ b, fstO ca (fun c b => decide (shN (fun q => !Dsm ca n M j q) n b < shN (fun q => !Dsm ca n M j q) n c)) M = some b ∧ b < M ∧ b = smpS ca n M j ∧ 0 < shN (misS ca n M j) n b ∧ shN (fun q => !Dsm ca n M j q) n b = shN (misS ca n M j) n b := by
  obtain ⟨b, h1, h2, h3, h4⟩ := bstP_some hn h
  have hD : ∀ c, c < M → ca c = true → shN (misS ca n M j) n c = shN (fun q => !Dsm ca n M j q) n c := fun c hc hca => sh_cand hn hc hca j
  obtain ⟨-, hca, -, -⟩ := (bstP_ok ca (misS ca n M j) n M).2.1 b h1
  rcases mst_eq hD M (Nat.le_refl M) with ⟨a, -⟩ | ⟨b', a1, a2, -⟩
  · rw [h1] at a; exact (nomatch a)
  · rw [h1] at a1
    obtain rfl := Option.some.inj a1
    exact ⟨b, a2, h2, h3, h4, (hD b h2 hca).symm⟩
theorem pos_no {ca : Nat → Bool} {n : Nat} (c : Nat) (h : ca c = false) : posB ca n (c + 1) = posB ca n c := funext (fun q => by rw [posB_succ, h, Bool.false_and, Bool.or_false])
theorem sum_one (g : Nat → Nat) (f : Nat) : ∀ n, sumN g (2 ^ f) n = if f < n then g f else 0
  | 0 => by rw [if_neg (Nat.not_lt_zero f)]; rfl
  | n + 1 => by
    rw [sumN_succ, sum_one g f n, pow_bit]
    by_cases h : f = n
    · subst h; simp
    · by_cases h2 : f < n
      · simp [h, h2, show f < n + 1 by omega]
      · simp [h, h2, show ¬ f < n + 1 by omega]
theorem sum_one' (g : Nat → Nat) {f n : Nat} (h : f < n) : sumN g (2 ^ f) n = g f := by rw [sum_one, if_pos h]
theorem two_lt {f : Nat} (h : f < 12) : 2 ^ f < 4096 := Nat.pow_lt_pow_right (n := 12) (by decide) h
theorem dec_S {σ : Sg} (h : WF σ) {f : Nat} (hf : f < sN σ) : decN (inS σ) (ouS σ) f = sD σ f := by
  unfold decN inS ouS decM
  rw [maskN_bit, maskN_bit, decide_eq_true hf, Bool.true_and, Bool.true_and]
  have h3 := h.2.2.2.2.2.2.2.1 f
  have : sD σ f = 0 ∨ sD σ f = 1 ∨ sD σ f = 2 := by omega
  rcases this with h | h | h <;> rw [h] <;> rfl
theorem lefS_0 (ca : Nat → Bool) (n M : Nat) : lefS ca n M 0 = fb_ct (posB ca n M) 576 := rfl
theorem lef_264 (ca : Nat → Bool) {n : Nat} (M : Nat) (hn : n ≤ 12) : lefS ca n M 0 + 0 ≤ 264 := by
  rw [Nat.add_zero, lefS_0]
  exact pos_264 ca M hn
