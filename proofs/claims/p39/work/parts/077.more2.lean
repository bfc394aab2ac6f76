/-! what the class's answers come to: rows, parents, blame -/
theorem tn_lt {x : Int32} {n : Nat} (hn : n < 2147483648) (h : isF x n = true) : tn x < n := by
  obtain ⟨f, hf, rfl⟩ := isF_ok hn h
  rw [tn_nI (by omega)]; exact hf
theorem uniN_lt {g : Nat → Nat} : ∀ {n : Nat}, (∀ i, i < n → g i < 4096) → uniN g n < 4096
  | 0, _ => by show 0 < 4096; decide
  | n + 1, h => by
    show uniN g n ||| g n < 4096
    exact Nat.or_lt_two_pow (n := 12) (uniN_lt (fun i hi => h i (by omega))) (h n (by omega))
theorem comN_lt (g : Nat → Nat) : ∀ n : Nat, comN g n < 4096
  | 0 => by show 4095 < 4096; decide
  | n + 1 => by
    show comN g n &&& g n < 4096
    exact Nat.lt_of_le_of_lt Nat.and_le_left (comN_lt g n)
/-- a product has the parent of what it has -/
theorem prod_parent {σ : Sg} {c f : Nat} (h : prodB σ c = true) (h1 : 1 ≤ f) (hf : f < sN σ) (hb : c.testBit f = true) : c.testBit (sP σ f) = true := by
  have hs := of_decide_eq_true (prod_shp h)
  unfold treeN at hs
  rw [tr1_ct] at hs
  have h2 := fb_ct_zero.mp (show fb_ct (fun i => decide (1 ≤ i) && (c.testBit i && !c.testBit (sP σ i))) (sN σ) = 0 by omega) f hf
  rw [decide_eq_true h1, hb] at h2
  simpa using h2
theorem ffr_row {σ : Sg} {n f : Nat} {g : Nat → Nat} (hr : RowOK (prodB σ) (M2 σ) n g) (h1 : 1 ≤ f) (hf : f < sN σ) : cwP σ f = cwP σ (sP σ f) ↔ ∀ j, j < n → (g j).testBit (sP σ f) = true → (g j).testBit f = true := by
  have e1 : cwP σ f = fb_ct (fun j => (g j).testBit (sP σ f) && (g j).testBit f) n := (hr.with f).symm.trans (fb_ct_cong (fun j hj => by
    show (g j).testBit f = ((g j).testBit (sP σ f) && (g j).testBit f)
    cases h : (g j).testBit f with
    | false => rw [Bool.and_false]
    | true => rw [prod_parent (hr.get hj).2.1 h1 hf h]; rfl))
  have e2 : cwP σ (sP σ f) = fb_ct (fun j => (g j).testBit (sP σ f)) n := (hr.with _).symm
  rw [e1, e2]
  exact ct_full
theorem ffr_pos {σ : Sg} {n f : Nat} {g : Nat → Nat} (hr : RowOK (prodB σ) (M2 σ) n g) : 0 < cwP σ (sP σ f) ↔ anyN (fun j => (g j).testBit (sP σ f)) n = true := by
  have e2 : cwP σ (sP σ f) = fb_ct (fun j => (g j).testBit (sP σ f)) n := (hr.with _).symm
  rw [e2, fb_ct_pos, anyN_iff]
theorem ffr_yes {σ : Sg} {n f : Nat} {g : Nat → Nat} (hr : RowOK (prodB σ) (M2 σ) n g) (h1 : 1 ≤ f) (hf : f < sN σ) (hm : sR σ f = 1) (hall : ∀ j, j < n → (g j).testBit (sP σ f) = true → (g j).testBit f = true) : r_ffr σ f = anyN (fun j => (g j).testBit (sP σ f)) n := by
  unfold r_ffr
  rw [decide_eq_true (show f ≠ 0 by omega), decide_eq_true hm, decide_eq_true ((ffr_row hr h1 hf).mpr hall), Bool.and_true, Bool.true_and, Bool.true_and]
  apply bool_eq
  rw [decide_eq_true_eq]
  exact ffr_pos hr
theorem ffr_no {σ : Sg} {n f j : Nat} {g : Nat → Nat} (hr : RowOK (prodB σ) (M2 σ) n g) (h1 : 1 ≤ f) (hf : f < sN σ) (hj : j < n) (hp : (g j).testBit (sP σ f) = true) (hnf : (g j).testBit f = false) : r_ffr σ f = false := by
  unfold r_ffr
  rw [decide_eq_false (show ¬ cwP σ f = cwP σ (sP σ f) from fun z => by
    have h2 := (ffr_row hr h1 hf).mp z j hj hp
    rw [hnf] at h2
    exact absurd h2 (by decide)), Bool.and_false, Bool.and_false, Bool.and_false]
theorem ffr_out {σ : Sg} {f : Nat} (h : f = 0 ∨ ¬ sR σ f = 1) : r_ffr σ f = false := by
  unfold r_ffr
  rcases h with h | h
  · rw [decide_eq_false (show ¬ f ≠ 0 by omega)]; rfl
  · rw [decide_eq_false h, Bool.false_and, Bool.and_false]
/-- sets of constraints: a part of a set is lesser -/
theorem popc_part {a b : Nat} (hb : b < 1024) (h : ∀ i, a.testBit i = true → b.testBit i = true) : a = b ∨ popc a < popc b := by
  have ha : a < 1024 := by
    rcases Nat.lt_or_ge a 1024 with q | q
    · exact q
    · obtain ⟨i, hi, hbit⟩ := Nat.exists_ge_and_testBit_of_ge_two_pow (n := 10) q
      have h2 := h i hbit
      rw [Nat.testBit_lt_two_pow (Nat.lt_of_lt_of_le hb (Nat.pow_le_pow_right (n := 2) (by decide) hi))] at h2
      exact absurd h2 (by decide)
  rcases Nat.lt_or_ge (popc a) (popc b) with q | q
  · exact Or.inr q
  · refine Or.inl (bit_ext (fun i => ?_))
    have ea := popc_ct (n := 10) ha (by decide)
    have eb := popc_ct (n := 10) hb (by decide)
    have e1 : fb_ct (fun i => b.testBit i && a.testBit i) 10 = fb_ct (fun i => a.testBit i) 10 := fb_ct_cong (fun i _ => by
      cases hx : a.testBit i with
      | false => rw [Bool.and_false]
      | true => rw [h i hx]; rfl)
    have e2 : fb_ct (fun i => b.testBit i && a.testBit i) 10 ≤ fb_ct (fun i => b.testBit i) 10 := fb_ct_sub (fun k _ hk => by rw [Bool.and_eq_true] at hk; exact hk.1)
    have e3 := ct_full.mp (show fb_ct (fun i => b.testBit i && a.testBit i) 10 = fb_ct (fun i => b.testBit i) 10 by omega)
    cases hx : a.testBit i with
    | true => exact (h i hx).symm
    | false =>
      cases hy : b.testBit i with
      | false => rfl
      | true =>
        have hi : i < 10 := by
          rcases Nat.lt_or_ge i 10 with z | z
          · exact z
          · rw [Nat.testBit_lt_two_pow (Nat.lt_of_lt_of_le hb (Nat.pow_le_pow_right (n := 2) (by decide) z))] at hy
            exact absurd hy (by decide)
        have h4 := e3 i hi hy
        rw [hx] at h4
        exact absurd h4 (by decide)
theorem cn_part {σ : Sg} (hwf : WF σ) (c : Nat) : cnN (sKd σ) (sA σ) (sB σ) (sO σ) c (sK σ) = onS σ ∨ lessB (cnN (sKd σ) (sA σ) (sB σ) (sO σ) c (sK σ)) (onS σ) = true := by
  rcases popc_part (onS_lt hwf) (a := cnN (sKd σ) (sA σ) (sB σ) (sO σ) c (sK σ)) (fun i h => by
    unfold cnN at h
    unfold onS
    rw [maskN_bit, Bool.and_eq_true] at h ⊢
    refine ⟨h.1, ?_⟩
    have h2 := h.2
    unfold brB at h2
    rw [Bool.and_eq_true] at h2
    exact h2.1) with h | h
  · exact Or.inl h
  · exact Or.inr (lessB_t1 h)
def blG (σ : Sg) (f i : Nat) : Nat := (blO σ f i).getD (onS σ)
theorem lessB_self (a : Nat) : lessB a a = false := lessB_f2 (Nat.le_refl _) (Nat.le_refl _)
theorem blG_no {σ : Sg} {f i : Nat} (h : ¬ (i.testBit f = true ∧ treeN (sN σ) (sP σ) (sR σ) i = 0)) : blG σ f (i + 1) = blG σ f i := by
  unfold blG; rw [blO_no h]
theorem blG_yes {σ : Sg} (hwf : WF σ) {f i : Nat} (h : i.testBit f = true ∧ treeN (sN σ) (sP σ) (sR σ) i = 0) : blG σ f (i + 1) = if lessB (cnN (sKd σ) (sA σ) (sB σ) (sO σ) i (sK σ)) (blG σ f i) = true then cnN (sKd σ) (sA σ) (sB σ) (sO σ) i (sK σ) else blG σ f i := by
  unfold blG
  cases hq : blO σ f i with
  | none =>
    rw [blO_first h hq]
    show cnN (sKd σ) (sA σ) (sB σ) (sO σ) i (sK σ) = if lessB (cnN (sKd σ) (sA σ) (sB σ) (sO σ) i (sK σ)) (onS σ) = true then _ else onS σ
    rcases cn_part hwf i with z | z
    · rw [z, lessB_self, if_neg Bool.false_ne_true]
    · rw [if_pos z]
  | some b =>
    show _ = if lessB (cnN (sKd σ) (sA σ) (sB σ) (sO σ) i (sK σ)) b = true then _ else b
    cases hl : lessB (cnN (sKd σ) (sA σ) (sB σ) (sO σ) i (sK σ)) b with
    | true => rw [blO_less h hq hl, if_pos rfl]; rfl
    | false => rw [blO_keep h hq hl, if_neg Bool.false_ne_true]; rfl
theorem blG_lt {σ : Sg} (hwf : WF σ) (f i : Nat) : blG σ f i < 1024 := by
  unfold blG
  cases hq : blO σ f i with
  | none => exact onS_lt hwf
  | some b => exact blO_lt hwf hq
/-- a configuration of the tree with a feature: parents are had; of a group of ONE the one with the least key is had, and what lies above the feature has the key 0 -/
def ptN (pa : Nat → Nat) (f : Nat) : Nat → Nat
  | 0 => f
  | k + 1 => if ptN pa f k = 0 then 0 else pa (ptN pa f k)
theorem ptN_succ (pa : Nat → Nat) (f k : Nat) : ptN pa f (k + 1) = if ptN pa f k = 0 then 0 else pa (ptN pa f k) := rfl
def keyN (pa : Nat → Nat) (f j : Nat) : Nat := if anyN (fun k => decide (ptN pa f k = j)) (f + 1) = true then 0 else j
def pickB (n : Nat) (pa rl : Nat → Nat) (f i : Nat) : Bool := decide (rl i ≠ 2) || allN (fun j => !chQ pa rl (pa i) 2 j || decide (keyN pa f i ≤ keyN pa f j)) n
def tabB (n : Nat) (pa rl : Nat → Nat) (f : Nat) : Nat → Nat → Bool
  | 0 => fun _ => false
  | i + 1 => va_up (tabB n pa rl f i) i (decide (i = 0) || (tabB n pa rl f i (pa i) && pickB n pa rl f i))
def selB (n : Nat) (pa rl : Nat → Nat) (f i : Nat) : Bool := tabB n pa rl f (i + 1) i
theorem tab_at {n : Nat} {pa rl : Nat → Nat} {f j : Nat} : ∀ {m : Nat}, j < m → tabB n pa rl f m j = selB n pa rl f j
  | 0, h => absurd h (Nat.not_lt_zero j)
  | m + 1, h => by
    rcases Nat.lt_or_ge j m with q | q
    · show va_up (tabB n pa rl f m) m _ j = _
      rw [up_ne (by omega)]
      exact tab_at q
    · rw [show j = m by omega]; rfl
theorem sel_eq {n : Nat} {pa rl : Nat → Nat} {f i : Nat} (h1 : 1 ≤ i) (hp : pa i < i) : selB n pa rl f i = (selB n pa rl f (pa i) && pickB n pa rl f i) := by
  show va_up (tabB n pa rl f i) i (decide (i = 0) || (tabB n pa rl f i (pa i) && pickB n pa rl f i)) i = _
  rw [up_at, decide_eq_false (show ¬ i = 0 by omega), Bool.false_or, tab_at hp]
theorem sel_0 (n : Nat) (pa rl : Nat → Nat) (f : Nat) : selB n pa rl f 0 = true := by
  show va_up (tabB n pa rl f 0) 0 (decide ((0 : Nat) = 0) || (tabB n pa rl f 0 (pa 0) && pickB n pa rl f 0)) 0 = true
  rw [up_at]; rfl
section PATH
variable {n f : Nat} {pa rl : Nat → Nat}
theorem pt_le (hp : ∀ i, 1 ≤ i → i < n → pa i < i) (hf : f < n) : ∀ k, ptN pa f k + k ≤ f ∨ ptN pa f k = 0
  | 0 => Or.inl (Nat.le_refl _)
  | k + 1 => by
    rw [ptN_succ]
    rcases pt_le hp hf k with h | h
    · by_cases h0 : ptN pa f k = 0
      · rw [if_pos h0]; exact Or.inr rfl
      · rw [if_neg h0]
        have := hp (ptN pa f k) (by omega) (by omega)
        exact Or.inl (by omega)
    · rw [if_pos h]; exact Or.inr rfl
theorem pt_lt (hp : ∀ i, 1 ≤ i → i < n → pa i < i) (hf : f < n) (k : Nat) : ptN pa f k < n := by
  rcases pt_le hp hf k with h | h <;> omega
theorem pt_mono (hp : ∀ i, 1 ≤ i → i < n → pa i < i) (hf : f < n) (a : Nat) : ∀ d, ptN pa f (a + d) ≤ ptN pa f a
  | 0 => Nat.le_refl _
  | d + 1 => by
    rw [← Nat.add_assoc, ptN_succ]
    have ih := pt_mono hp hf a d
    by_cases h0 : ptN pa f (a + d) = 0
    · rw [if_pos h0]; exact Nat.zero_le _
    · rw [if_neg h0]
      have := hp (ptN pa f (a + d)) (by omega) (pt_lt hp hf _)
      omega
theorem pt_one (hp : ∀ i, 1 ≤ i → i < n → pa i < i) (hf : f < n) {a b : Nat} (ha : 1 ≤ ptN pa f a) (hb : 1 ≤ ptN pa f b) (h : a < b) : pa (ptN pa f a) ≠ pa (ptN pa f b) := by
  intro z
  have h1 := pt_mono hp hf (a + 1) (b - (a + 1))
  rw [show a + 1 + (b - (a + 1)) = b by omega, ptN_succ, if_neg (by omega)] at h1
  have h2 := hp (ptN pa f b) hb (pt_lt hp hf b)
  omega
theorem key_one (hp : ∀ i, 1 ≤ i → i < n → pa i < i) (hf : f < n) {i j : Nat} (hi : 1 ≤ i) (hj : 1 ≤ j) (he : pa i = pa j) (h : keyN pa f i = keyN pa f j) : i = j := by
  unfold keyN at h
  by_cases h1 : anyN (fun k => decide (ptN pa f k = i)) (f + 1) = true
  · by_cases h2 : anyN (fun k => decide (ptN pa f k = j)) (f + 1) = true
    · obtain ⟨a, -, ha⟩ := anyN_iff.mp h1
      obtain ⟨b, -, hb⟩ := anyN_iff.mp h2
      have ha := of_decide_eq_true ha
      have hb := of_decide_eq_true hb
      subst ha
      subst hb
      rcases Nat.lt_trichotomy a b with q | q | q
      · exact absurd he (pt_one hp hf hi hj q)
      · rw [q]
      · exact absurd he.symm (pt_one hp hf hj hi q)
    · rw [if_pos h1, if_neg h2] at h; omega
  · by_cases h2 : anyN (fun k => decide (ptN pa f k = j)) (f + 1) = true
    · rw [if_neg h1, if_pos h2] at h; omega
    · rw [if_neg h1, if_neg h2] at h; exact h
theorem sel_path (hp : ∀ i, 1 ≤ i → i < n → pa i < i) (hf : f < n) : ∀ d k, k + d = f → selB n pa rl f (ptN pa f k) = true
  | 0, k, h => by
    have h0 : ptN pa f k = 0 := by rcases pt_le hp hf k with z | z <;> omega
    rw [h0]; exact sel_0 n pa rl f
  | d + 1, k, h => by
    by_cases h0 : ptN pa f k = 0
    · rw [h0]; exact sel_0 n pa rl f
    · have ih := sel_path hp hf d (k + 1) (by omega)
      rw [ptN_succ, if_neg h0] at ih
      rw [sel_eq (by omega) (hp _ (by omega) (pt_lt hp hf k)), ih, Bool.true_and]
      unfold pickB
      have hk : keyN pa f (ptN pa f k) = 0 := by
        unfold keyN
        rw [if_pos (anyN_iff.mpr ⟨k, by omega, decide_eq_true rfl⟩)]
      rw [hk, Bool.or_eq_true]
      exact Or.inr (allN_iff.mpr (fun j _ => by rw [decide_eq_true (Nat.zero_le _), Bool.or_true]))
theorem any_least (q : Nat → Bool) (key : Nat → Nat) : ∀ m, anyN q m = true → ∃ a, a < m ∧ q a = true ∧ ∀ j, j < m → q j = true → key a ≤ key j
  | 0, h => absurd h Bool.false_ne_true
  | m + 1, h => by
    by_cases h1 : anyN q m = true
    · obtain ⟨a, ha, hq, hl⟩ := any_least q key m h1
      by_cases h2 : q m = true ∧ key m < key a
      · refine ⟨m, by omega, h2.1, fun j hj hqj => ?_⟩
        rcases Nat.lt_or_ge j m with z | z
        · have := hl j z hqj; omega
        · rw [show j = m by omega]; exact Nat.le_refl _
      · refine ⟨a, by omega, hq, fun j hj hqj => ?_⟩
        rcases Nat.lt_or_ge j m with z | z
        · exact hl j z hqj
        · have e : j = m := by omega
          subst e
          rcases Nat.lt_or_ge (key j) (key a) with y | y
          · exact absurd ⟨hqj, y⟩ h2
          · exact y
    · rw [anyN_succ, Bool.or_eq_true] at h
      rcases h with h | h
      · exact absurd h h1
      · refine ⟨m, by omega, h, fun j hj hqj => ?_⟩
        rcases Nat.lt_or_ge j m with z | z
        · exact absurd (anyN_iff.mpr ⟨j, z, hqj⟩) h1
        · rw [show j = m by omega]; exact Nat.le_refl _
theorem ct_single {a : Nat} : ∀ m, fb_ct (fun j => decide (j = a)) m = if a < m then 1 else 0
  | 0 => rfl
  | m + 1 => by
    rw [fb_ct_succ, ct_single m]
    by_cases h : m = a
    · subst h
      rw [if_neg (Nat.lt_irrefl m), decide_eq_true rfl, if_pos rfl, if_pos (by omega)]
    · rw [decide_eq_false h, if_neg Bool.false_ne_true]
      by_cases h2 : a < m
      · rw [if_pos h2, if_pos (by omega)]
      · rw [if_neg h2, if_neg (by omega)]
theorem chQ_iff {p r j : Nat} : chQ pa rl p r j = true ↔ 1 ≤ j ∧ pa j = p ∧ rl j = r := by
  unfold chQ
  rw [Bool.and_eq_true, Bool.and_eq_true, decide_eq_true_eq, decide_eq_true_eq, decide_eq_true_eq]
theorem tree_with (hn : 1 ≤ n) (hp : ∀ i, 1 ≤ i → i < n → pa i < i) (hf : f < n) : ∃ c, c < 2 ^ n ∧ c.testBit f = true ∧ treeN n pa rl c = 0 := by
  have hbit : ∀ i, i < n → (maskN (selB n pa rl f) n).testBit i = selB n pa rl f i := fun i hi => by rw [maskN_bit, decide_eq_true hi, Bool.true_and]
  refine ⟨maskN (selB n pa rl f) n, maskN_lt _ n, (hbit f hf).trans (sel_path hp hf f 0 (by omega)), ?_⟩
  generalize maskN (selB n pa rl f) n = c at hbit
  have hs : ∀ i, 1 ≤ i → i < n → c.testBit i = (c.testBit (pa i) && pickB n pa rl f i) := fun i h1 h2 => by
    have h3 := hp i h1 h2
    rw [hbit i h2, hbit (pa i) (by omega)]
    exact sel_eq h1 h3
  have hpk : ∀ i, ¬ rl i = 2 → pickB n pa rl f i = true := fun i h => by unfold pickB; rw [decide_eq_true h]; rfl
  have h0 : c.testBit 0 = true := (hbit 0 (by omega)).trans (sel_0 n pa rl f)
  have ht1 : tr1 pa rl c n = 0 := by
    rw [tr1_ct]
    have e1 : fb_ct (fun i => decide (1 ≤ i) && (c.testBit i && !c.testBit (pa i))) n = 0 := fb_ct_zero.mpr (fun i hi => by
      by_cases h1 : 1 ≤ i
      · rw [hs i h1 hi]
        cases c.testBit (pa i) <;> simp
      · rw [decide_eq_false h1]; rfl)
    have e2 : fb_ct (fun i => (decide (1 ≤ i) && (decide (rl i = 0) && !c.testBit i)) && c.testBit (pa i)) n = 0 := fb_ct_zero.mpr (fun i hi => by
      by_cases h1 : 1 ≤ i
      · by_cases hr : rl i = 0
        · rw [hs i h1 hi, hpk i (by omega)]
          cases c.testBit (pa i) <;> simp
        · rw [decide_eq_false hr, Bool.false_and, Bool.and_false, Bool.false_and]
      · rw [decide_eq_false h1]; rfl)
    omega
  have ht2 : tr2 pa rl n c n = 0 := by
    rw [tr2_sm]
    have e : ∀ i, i < n → (if c.testBit i then (if chO pa rl c i 2 n ≠ none ∧ chO pa rl c i 2 n ≠ some 1 then 1 else 0) + (if chO pa rl c i 3 n = some 0 then 1 else 0) else 0) = 0 := fun i hi => by
      by_cases hc : c.testBit i = true
      · rw [if_pos hc]
        have a3 : ¬ chO pa rl c i 3 n = some 0 := by
          rw [chO_ct]
          by_cases ha : anyN (chQ pa rl i 3) n = true
          · rw [if_pos ha]
            obtain ⟨j, hj, hq⟩ := anyN_iff.mp ha
            obtain ⟨j1, j2, j3⟩ := chQ_iff.mp hq
            intro z
            have hz := fb_ct_zero.mp (Option.some.inj z) j hj
            rw [hq, Bool.true_and, hs j j1 hj, hpk j (by omega), j2, hc] at hz
            exact absurd hz (by decide)
          · rw [if_neg ha]; exact fun z => nomatch z
        have a2 : ¬ (chO pa rl c i 2 n ≠ none ∧ chO pa rl c i 2 n ≠ some 1) := by
          rw [chO_ct]
          by_cases ha : anyN (chQ pa rl i 2) n = true
          · rw [if_pos ha]
            obtain ⟨a, ha1, ha2, ha3⟩ := any_least (chQ pa rl i 2) (keyN pa f) n ha
            obtain ⟨b1, b2, b3⟩ := chQ_iff.mp ha2
            have hsel : ∀ j, j < n → chQ pa rl i 2 j = true → (c.testBit j = true ↔ j = a) := fun j hj hq => by
              obtain ⟨j1, j2, j3⟩ := chQ_iff.mp hq
              rw [hs j j1 hj, j2, hc, Bool.true_and]
              unfold pickB
              rw [Bool.or_eq_true, decide_eq_true_eq, allN_iff]
              constructor
              · rintro (z | z)
                · exact absurd j3 z
                · have h5 := z a ha1
                  rw [j2, ha2, Bool.not_true, Bool.false_or, decide_eq_true_eq] at h5
                  have h6 := ha3 j hj hq
                  exact key_one hp hf j1 b1 (j2.trans b2.symm) (by omega)
              · intro z
                subst z
                refine Or.inr (fun o ho => ?_)
                rw [j2]
                cases hqo : chQ pa rl i 2 o with
                | false => rfl
                | true => rw [decide_eq_true (ha3 o ho hqo)]; rfl
            have e1 : fb_ct (fun j => chQ pa rl i 2 j && c.testBit j) n = 1 := by
              rw [fb_ct_cong (q := fun j => decide (j = a)) (fun j hj => ?_), ct_single, if_pos ha1]
              cases hqj : chQ pa rl i 2 j with
              | false =>
                rw [Bool.false_and]
                exact (decide_eq_false (fun z => by rw [z, ha2] at hqj; exact absurd hqj (by decide))).symm
              | true =>
                rw [Bool.true_and]
                apply bool_eq
                rw [decide_eq_true_eq]
                exact hsel j hj hqj
            rw [e1]
            exact fun z => z.2 rfl
          · rw [if_neg ha]; exact fun z => z.1 rfl
        rw [if_neg a2, if_neg a3]
      · rw [if_neg hc]
    rw [fb_sm_cong (g := fun _ => 0) e, fb_sm_const, Nat.mul_zero]
  unfold treeN
  rw [h0, ht1, ht2]; rfl
end PATH
theorem blO_hit {σ : Sg} {f c : Nat} (h : c.testBit f = true ∧ treeN (sN σ) (sP σ) (sR σ) c = 0) : ∀ {i : Nat}, c < i → ∃ b, blO σ f i = some b
  | 0, hc => absurd hc (Nat.not_lt_zero c)
  | i + 1, hc => by
    by_cases hi : i.testBit f = true ∧ treeN (sN σ) (sP σ) (sR σ) i = 0
    · cases hq : blO σ f i with
      | none => exact ⟨_, blO_first hi hq⟩
      | some b =>
        cases hl : lessB (cnN (sKd σ) (sA σ) (sB σ) (sO σ) i (sK σ)) b with
        | true => exact ⟨_, blO_less hi hq hl⟩
        | false => exact ⟨_, blO_keep hi hq hl⟩
    · rw [blO_no hi]
      rcases Nat.lt_or_ge c i with q | q
      · exact blO_hit h q
      · exact absurd (show c = i by omega) (fun z => hi (z ▸ h))
theorem blO_some {σ : Sg} (hwf : WF σ) {f : Nat} (hf : f < sN σ) : ∃ b, blO σ f (M2 σ) = some b := by
  obtain ⟨c, hc, h1, h2⟩ := tree_with (rl := sR σ) hwf.1 hwf.2.2.1 hf
  exact blO_hit ⟨h1, h2⟩ hc
theorem blG_end {σ : Sg} (hwf : WF σ) {f : Nat} (hf : f < sN σ) : nI (blG σ f (M2 σ)) = oI (blO σ f (M2 σ)) := by
  obtain ⟨b, hb⟩ := blO_some hwf hf
  unfold blG
  rw [hb]; rfl
