/-! pairs: what is missing, what a configuration shows, the greedy walk -/
theorem anyN_succ (p : Nat → Bool) (i : Nat) : anyN p (i + 1) = (anyN p i || p i) := rfl
theorem anyN_iff {p : Nat → Bool} : ∀ {n : Nat}, anyN p n = true ↔ ∃ i, i < n ∧ p i = true
  | 0 => ⟨fun h => by simp [anyN] at h, fun ⟨i, hi, _⟩ => absurd hi (Nat.not_lt_zero i)⟩
  | n + 1 => by
    rw [anyN_succ, Bool.or_eq_true, anyN_iff (n := n)]
    constructor
    · rintro (⟨i, hi, h⟩ | h)
      · exact ⟨i, by omega, h⟩
      · exact ⟨n, by omega, h⟩
    · rintro ⟨i, hi, h⟩
      rcases Nat.lt_or_ge i n with q | q
      · exact Or.inl ⟨i, q, h⟩
      · rw [show n = i by omega]; exact Or.inr h
theorem anyN_none {p : Nat → Bool} {n : Nat} (h : ∀ i, i < n → p i = false) : anyN p n = false := by
  cases hq : anyN p n with
  | false => rfl
  | true =>
    obtain ⟨i, hi, h2⟩ := anyN_iff.mp hq
    rw [h i hi] at h2
    exact absurd h2 (by decide)
def rowB (c a q b : Nat) : Bool := decide (a < b) && decide (prK c a b = q)
def seenB (n c a b q : Nat) : Bool := anyN (fun a' => anyN (rowB c a' q) n) a || anyN (rowB c a q) b
theorem prK_lt {c a b : Nat} (ha : a < 12) (hb : b < 12) : prK c a b < 576 := by
  unfold prK
  split <;> split <;> omega
theorem prK_inj {c a b a' b' : Nat} (hb : b < 12) (hb' : b' < 12) (h : prK c a b = prK c a' b') : a = a' ∧ b = b' := by
  unfold prK at h
  have h1 : (if c.testBit a then 2 else 0) + (if c.testBit b then 1 else 0) < 4 := by split <;> split <;> omega
  have h2 : (if c.testBit a' then 2 else 0) + (if c.testBit b' then 1 else 0) < 4 := by split <;> split <;> omega
  omega
theorem row_in (c a q : Nat) {b : Nat} (h : b ≤ a + 1) : anyN (rowB c a q) b = false := anyN_none (fun i hi => by
  unfold rowB
  rw [decide_eq_false (by omega), Bool.false_and])
theorem seen_in (n c a q : Nat) {b : Nat} (h : b ≤ a + 1) : seenB n c a b q = seenB n c a 0 q := by
  unfold seenB
  rw [row_in c a q h]; rfl
theorem seen_up (n c a q : Nat) : seenB n c (a + 1) 0 q = seenB n c a n q := by
  unfold seenB
  rw [anyN_succ]
  exact Bool.or_false _
theorem seen_step {n c a b q : Nat} (h : a < b) : seenB n c a (b + 1) q = (seenB n c a b q || decide (prK c a b = q)) := by
  unfold seenB
  rw [anyN_succ, Bool.or_assoc]
  unfold rowB
  rw [decide_eq_true h, Bool.true_and]
theorem seen_fresh {n c a b : Nat} (hn : n ≤ 12) (hb : b < n) : seenB n c a b (prK c a b) = false := by
  unfold seenB
  rw [anyN_none (fun a' ha' => anyN_none (fun b' hb' => ?_)), anyN_none (fun b' hb' => ?_)]
  · rfl
  · unfold rowB
    rw [decide_eq_false (p := prK c a b' = prK c a b) (fun z => by have := prK_inj (by omega) (by omega) z; omega), Bool.and_false]
  · unfold rowB
    rw [decide_eq_false (p := prK c a' b' = prK c a b) (fun z => by have := prK_inj (by omega) (by omega) z; omega), Bool.and_false]
theorem seen_0 (n c q : Nat) : seenB n c 0 0 q = false := rfl
theorem seen_all (n c q : Nat) : seenB n c n 0 q = pshB n c q := Bool.or_false _
theorem posB_succ (ca : Nat → Bool) (n c q : Nat) : posB ca n (c + 1) q = (posB ca n c q || (ca c && pshB n c q)) := rfl
/-- how many pairs a row of a configuration shows -/
def shR (mi : Nat → Bool) (c a : Nat) (b : Nat) : Bool := decide (a < b) && mi (prK c a b)
theorem shN_eq (mi : Nat → Bool) (n c : Nat) : shN mi n c = fb_sm (fun a => fb_ct (shR mi c a) n) n := rfl
theorem shR_in (mi : Nat → Bool) (c a : Nat) : fb_ct (shR mi c a) (a + 1) = 0 := fb_ct_zero.mpr (fun b hb => by unfold shR; rw [decide_eq_false (by omega), Bool.false_and])
theorem ct_row (mi : Nat → Bool) {n c a : Nat} (hn : n ≤ 12) (ha : a < n) {S : Nat} (h0 : fb_ct (fun q => mi q && !seenB n c a 0 q) 576 + S = fb_ct mi 576) : ∀ b, b ≤ n → fb_ct (fun q => mi q && !seenB n c a b q) 576 + (S + fb_ct (shR mi c a) b) = fb_ct mi 576
  | 0, _ => h0
  | b + 1, hb => by
    have ih := ct_row mi hn ha h0 b (by omega)
    rw [fb_ct_succ (shR mi c a) b]
    by_cases hab : a < b
    · have e : (fun q => mi q && !seenB n c a (b + 1) q) = (fun q => if q = prK c a b then false else (mi q && !seenB n c a b q)) := by
        funext q
        rw [seen_step hab]
        by_cases hq : q = prK c a b
        · rw [if_pos hq, decide_eq_true hq.symm]; simp
        · rw [if_neg hq, decide_eq_false (fun z => hq z.symm)]; simp
      rw [e]
      have hu := fb_ct_upd (fun q => mi q && !seenB n c a b q) false (i := prK c a b) (n := 576) (prK_lt (by omega) (by omega))
      simp only [seen_fresh hn (show b < n by omega), Bool.not_false, Bool.and_true, Bool.false_eq_true, if_false] at hu
      have hr : shR mi c a b = mi (prK c a b) := by unfold shR; rw [decide_eq_true hab, Bool.true_and]
      rw [hr]
      omega
    · have hr : shR mi c a b = false := by unfold shR; rw [decide_eq_false hab, Bool.false_and]
      rw [hr]
      have e : (fun q => mi q && !seenB n c a (b + 1) q) = (fun q => mi q && !seenB n c a b q) := by
        funext q
        rw [seen_in n c a q (show b + 1 ≤ a + 1 by omega), seen_in n c a q (show b ≤ a + 1 by omega)]
      rw [e]
      simpa using ih
theorem ct_rows (mi : Nat → Bool) {n c : Nat} (hn : n ≤ 12) : ∀ a, a ≤ n → fb_ct (fun q => mi q && !seenB n c a 0 q) 576 + fb_sm (fun a => fb_ct (shR mi c a) n) a = fb_ct mi 576
  | 0, _ => by
    rw [show (fun q => mi q && !seenB n c 0 0 q) = mi from funext fun q => by rw [seen_0]; simp]
    exact Nat.add_zero _
  | a + 1, ha => by
    have h := ct_row mi (c := c) hn (show a < n by omega) (ct_rows mi (c := c) hn a (by omega)) n (Nat.le_refl n)
    rw [show (fun q => mi q && !seenB n c (a + 1) 0 q) = (fun q => mi q && !seenB n c a n q) from funext (fun q => by rw [seen_up]), fb_sm_succ]
    exact h
theorem ct_psh (mi : Nat → Bool) {n : Nat} (c : Nat) (hn : n ≤ 12) : fb_ct (fun q => mi q && !pshB n c q) 576 + shN mi n c = fb_ct mi 576 := by
  have h := ct_rows mi (c := c) hn n (Nat.le_refl n)
  rw [show (fun q => mi q && !seenB n c n 0 q) = (fun q => mi q && !pshB n c q) from funext fun q => by rw [seen_all]] at h
  exact h
theorem shN_le (mi : Nat → Bool) {n : Nat} (c : Nat) (hn : n ≤ 12) : shN mi n c ≤ 576 := by
  have h := ct_psh mi c hn
  have h2 := fb_ct_le mi 576
  omega
theorem shN_pos {mi : Nat → Bool} {n c q : Nat} (h : pshB n c q = true) (hq : mi q = true) : 0 < shN mi n c := by
  obtain ⟨a, ha, h1⟩ := anyN_iff.mp h
  obtain ⟨b, hb, h2⟩ := anyN_iff.mp h1
  rw [Bool.and_eq_true] at h2
  have h3 := of_decide_eq_true h2.2
  have hr : shR mi c a b = true := by unfold shR; rw [h2.1, h3, hq]; rfl
  have h4 : 0 < fb_ct (shR mi c a) n := fb_ct_pos.mpr ⟨b, hb, hr⟩
  have h5 := fb_sm_part (fun a => fb_ct (shR mi c a) n) ha
  rw [shN_eq]
  omega
theorem misS_succ (ca : Nat → Bool) (n M j q : Nat) : misS ca n M (j + 1) q = (misS ca n M j q && !pshB n (smpS ca n M j) q) := rfl
theorem lefS_ct (ca : Nat → Bool) {n : Nat} (M : Nat) (hn : n ≤ 12) : ∀ j, lefS ca n M j = fb_ct (misS ca n M j) 576
  | 0 => rfl
  | j + 1 => by
    have h := ct_psh (misS ca n M j) (smpS ca n M j) hn
    show lefS ca n M j - shN (misS ca n M j) n (smpS ca n M j) = fb_ct (fun q => misS ca n M j q && !pshB n (smpS ca n M j) q) 576
    rw [lefS_ct ca M hn j]
    omega
theorem misS_pos {ca : Nat → Bool} {n M q : Nat} : ∀ {j : Nat}, misS ca n M j q = true → posB ca n M q = true
  | 0, h => h
  | j + 1, h => misS_pos (j := j) (by rw [misS_succ, Bool.and_eq_true] at h; exact h.1)
theorem bstP_keep {ca mi : Nat → Bool} {n c : Nat} (h : (if ca c = true then shN mi n c else 0) ≤ (bstP ca mi n c).2) : bstP ca mi n (c + 1) = bstP ca mi n c := if_pos h
theorem bstP_take {ca mi : Nat → Bool} {n c : Nat} (h : ¬ (if ca c = true then shN mi n c else 0) ≤ (bstP ca mi n c).2) : bstP ca mi n (c + 1) = (some c, if ca c = true then shN mi n c else 0) := if_neg h
theorem bstP_ok (ca mi : Nat → Bool) (n : Nat) : ∀ i, ((bstP ca mi n i).1 = none → (bstP ca mi n i).2 = 0) ∧ (∀ b, (bstP ca mi n i).1 = some b → b < i ∧ ca b = true ∧ (bstP ca mi n i).2 = shN mi n b ∧ 0 < shN mi n b) ∧ ∀ c, c < i → ca c = true → shN mi n c ≤ (bstP ca mi n i).2
  | 0 => ⟨fun _ => rfl, fun b h => (nomatch h), fun c h => absurd h (Nat.not_lt_zero c)⟩
  | i + 1 => by
    obtain ⟨h1, h2, h3⟩ := bstP_ok ca mi n i
    by_cases hq : (if ca i = true then shN mi n i else 0) ≤ (bstP ca mi n i).2
    · rw [bstP_keep hq]
      refine ⟨h1, fun b hb => ?_, fun c hc hca => ?_⟩
      · obtain ⟨a1, a2⟩ := h2 b hb
        exact ⟨by omega, a2⟩
      · rcases Nat.lt_or_ge c i with z | z
        · exact h3 c z hca
        · obtain rfl : c = i := by omega
          rw [if_pos hca] at hq
          exact hq
    · rw [bstP_take hq]
      have hci : ca i = true := by
        cases hz : ca i with
        | true => rfl
        | false => rw [hz] at hq; simp at hq
      rw [if_pos hci] at hq ⊢
      refine ⟨fun h => (nomatch h), fun b hb => ?_, fun c hc hca => ?_⟩
      · obtain rfl := Option.some.inj hb
        exact ⟨by omega, hci, rfl, by omega⟩
      · rcases Nat.lt_or_ge c i with z | z
        · have := h3 c z hca
          show shN mi n c ≤ shN mi n i
          omega
        · rw [show c = i by omega]
          exact Nat.le_refl _
theorem bstP_lt {ca mi : Nat → Bool} {n i : Nat} : ∀ x, (bstP ca mi n i).1 = some x → x < i := fun x h => ((bstP_ok ca mi n i).2.1 x h).1
theorem bstP_some {ca : Nat → Bool} {n M j : Nat} (hn : n ≤ 12) (h : 0 < lefS ca n M j) : ∃ b, (bstP ca (misS ca n M j) n M).1 = some b ∧ b < M ∧ b = smpS ca n M j ∧ 0 < shN (misS ca n M j) n b := by
  rw [lefS_ct ca M hn j] at h
  obtain ⟨q, hq, hm⟩ := fb_ct_pos.mp h
  obtain ⟨c, hc, h2⟩ := anyN_iff.mp (misS_pos hm)
  rw [Bool.and_eq_true] at h2
  have hp := shN_pos (mi := misS ca n M j) h2.2 hm
  obtain ⟨h3, h4, h5⟩ := bstP_ok ca (misS ca n M j) n M
  have h6 := h5 c hc h2.1
  cases hb : (bstP ca (misS ca n M j) n M).1 with
  | none => have := h3 hb; omega
  | some b =>
    obtain ⟨a1, -, -, a4⟩ := h4 b hb
    exact ⟨b, rfl, a1, by unfold smpS; rw [hb]; rfl, a4⟩
theorem lefS_le (ca : Nat → Bool) {n : Nat} (M j : Nat) (hn : n ≤ 12) : lefS ca n M j ≤ 576 := by
  rw [lefS_ct ca M hn]; exact fb_ct_le _ _
theorem shN_lef (ca : Nat → Bool) {n : Nat} (M j c : Nat) (hn : n ≤ 12) : shN (misS ca n M j) n c ≤ lefS ca n M j := by
  have h := ct_psh (misS ca n M j) c hn
  rw [lefS_ct ca M hn]; omega
theorem lefS_succ (ca : Nat → Bool) (n M j : Nat) : lefS ca n M (j + 1) = lefS ca n M j - shN (misS ca n M j) n (smpS ca n M j) := rfl
/-- the steps of the loops -/
theorem clr_step {mi mi9 : Nat → Bool} {n c a b : Nat} {tk : Bool} (hn : n ≤ 12) (hb : b < n) (hab : a < b) (h : ∀ q, mi9 q = (mi q && !(tk && seenB n c a b q))) (ht : tk = true) : ∀ q, va_up mi9 (prK c a b) false q = (mi q && !(tk && seenB n c a (b + 1) q)) := fun q => by
  subst ht
  rw [seen_step hab]
  by_cases hq : q = prK c a b
  · subst hq; simp [va_up]
  · have : va_up mi9 (prK c a b) false q = mi9 q := by simp [va_up, hq]
    rw [this, h q, decide_eq_false (fun z => hq z.symm), Bool.or_false]
theorem clr_keep {mi mi9 : Nat → Bool} {n c a b a2 b2 : Nat} {tk : Bool} (h : ∀ q, mi9 q = (mi q && !(tk && seenB n c a b q))) (ht : tk = false) : ∀ q, mi9 q = (mi q && !(tk && seenB n c a2 b2 q)) := fun q => by
  subst ht
  exact h q
theorem clr_get {mi mi9 : Nat → Bool} {n c a b : Nat} {tk : Bool} (hn : n ≤ 12) (hb : b < n) (h : ∀ q, mi9 q = (mi q && !(tk && seenB n c a b q))) : mi9 (prK c a b) = mi (prK c a b) := by
  rw [h, seen_fresh hn hb, Bool.and_false, Bool.not_false, Bool.and_true]
theorem set_step {mi9 : Nat → Bool} {ca : Nat → Bool} {n c a b : Nat} (hab : a < b) (h : ∀ q, mi9 q = (posB ca n c q || seenB n c a b q)) : ∀ q, va_up mi9 (prK c a b) true q = (posB ca n c q || seenB n c a (b + 1) q) := fun q => by
  rw [seen_step hab]
  by_cases hq : q = prK c a b
  · subst hq; simp [va_up]
  · have : va_up mi9 (prK c a b) true q = mi9 q := by simp [va_up, hq]
    rw [this, h q, decide_eq_false (fun z => hq z.symm), Bool.or_false]
theorem bstP_le2 (ca mi : Nat → Bool) {n : Nat} (i : Nat) (hn : n ≤ 12) : (bstP ca mi n i).2 ≤ 576 := by
  obtain ⟨h1, h2, -⟩ := bstP_ok ca mi n i
  cases h : (bstP ca mi n i).1 with
  | none => rw [h1 h]; exact Nat.zero_le _
  | some b => obtain ⟨-, -, e, -⟩ := h2 b h; rw [e]; exact shN_le mi b hn
