/-! what the class's writes make of its masks -/
theorem offS_bit (σ : Sg) (f i : Nat) : (offS σ f).testBit i = (decide (i < sN σ) && (decide (1 ≤ i) && decide (sP σ i = f))) := maskN_bit _ i _
theorem chS_bit (σ : Sg) (r f i : Nat) : (chS σ r f).testBit i = (decide (i < sN σ) && (decide (1 ≤ i) && (decide (sP σ i = f) && decide (sR σ i = r)))) := maskN_bit _ i _
theorem lt_one (i n : Nat) : decide (i < n + 1) = (decide (i < n) || decide (i = n)) := by
  by_cases h : i < n
  · rw [decide_eq_true h, decide_eq_true (show i < n + 1 by omega)]; rfl
  · by_cases h2 : i = n
    · rw [decide_eq_true h2, decide_eq_true (show i < n + 1 by omega), Bool.or_true]
    · rw [decide_eq_false h, decide_eq_false h2, decide_eq_false (show ¬ i < n + 1 by omega)]; rfl
theorem up_at {α : Type} {f : Nat → α} {k : Nat} {v : α} : va_up f k v k = v := by simp [va_up]
theorem up_ne {α : Type} {f : Nat → α} {k j : Nat} {v : α} (h : j ≠ k) : va_up f k v j = f j := by simp [va_up, h]
theorem off_add {σ : Sg} (h1 : 1 ≤ sN σ) (p r j : Nat) : va_up (offS σ) p (offS σ p ||| 2 ^ sN σ) j = offS (addS σ p r) j := by
  refine bit_ext (fun i => ?_)
  rw [offS_bit]
  show _ = (decide (i < sN σ + 1) && (decide (1 ≤ i) && decide (va_up (sP σ) (sN σ) p i = j)))
  rw [lt_one]
  by_cases hi : i = sN σ
  · subst hi
    rw [up_at, decide_eq_true h1, decide_eq_true (rfl : sN σ = sN σ), Bool.or_true, Bool.true_and, Bool.true_and]
    by_cases hj : j = p
    · subst hj; rw [up_at, fb_bit_set, decide_eq_true (rfl : sN σ = sN σ), Bool.or_true, decide_eq_true (rfl : j = j)]
    · rw [up_ne hj, offS_bit, decide_eq_false (Nat.lt_irrefl _), Bool.false_and, decide_eq_false (fun z => hj z.symm)]
  · rw [up_ne hi, decide_eq_false hi, Bool.or_false, ← offS_bit]
    by_cases hj : j = p
    · subst hj; rw [up_at, fb_bit_set, decide_eq_false hi, Bool.or_false]
    · rw [up_ne hj]
theorem ch_add {σ : Sg} (h1 : 1 ≤ sN σ) (p r q j : Nat) : appCh (chS σ) p r (sN σ) q j = chS (addS σ p r) q j := by
  refine bit_ext (fun i => ?_)
  rw [chS_bit]
  show _ = (decide (i < sN σ + 1) && (decide (1 ≤ i) && (decide (va_up (sP σ) (sN σ) p i = j) && decide (va_up (sR σ) (sN σ) r i = q))))
  rw [lt_one]
  have e : (appCh (chS σ) p r (sN σ) q j).testBit i = ((chS σ q j).testBit i || (decide (i = sN σ) && (decide (p = j) && decide (r = q)))) := by
    unfold appCh
    by_cases hq : q = r
    · subst hq
      rw [up_at]
      by_cases hj : j = p
      · subst hj; rw [up_at, fb_bit_set, decide_eq_true (rfl : j = j), decide_eq_true (rfl : q = q), Bool.true_and, Bool.and_true]
      · rw [up_ne hj, decide_eq_false (show ¬ p = j from fun z => hj z.symm), Bool.false_and, Bool.and_false, Bool.or_false]
    · rw [up_ne hq, decide_eq_false (show ¬ r = q from fun z => hq z.symm), Bool.and_false, Bool.and_false, Bool.or_false]
  rw [e, chS_bit]
  by_cases hi : i = sN σ
  · subst hi
    rw [up_at, up_at, decide_eq_true h1, decide_eq_true (rfl : sN σ = sN σ), decide_eq_false (Nat.lt_irrefl _)]
    simp
  · rw [up_ne hi, up_ne hi, decide_eq_false hi]
    simp
theorem ch_rel {σ : Sg} {f r : Nat} (h1 : 1 ≤ f) (hf : f < sN σ) (q j : Nat) : relCh (chS σ) (sR σ f) r (sP σ f) f q j = chS (relS σ f r) q j := by
  refine bit_ext (fun i => ?_)
  rw [chS_bit]
  show _ = (decide (i < sN σ) && (decide (1 ≤ i) && (decide (sP σ i = j) && decide (va_up (sR σ) f r i = q))))
  have e1 : ∀ q j i, ((va_up (chS σ) (sR σ f) (va_up (chS σ (sR σ f)) (sP σ f) (andn (chS σ (sR σ f) (sP σ f)) (2 ^ f)))) q j).testBit i = ((chS σ q j).testBit i && !(decide (i = f) && (decide (sP σ f = j) && decide (sR σ f = q)))) := fun q j i => by
    by_cases hq : q = sR σ f
    · subst hq
      rw [up_at]
      by_cases hj : j = sP σ f
      · subst hj; rw [up_at, andn_bit, pow_bit, decide_eq_true (rfl : sP σ f = sP σ f), decide_eq_true (rfl : sR σ f = sR σ f), Bool.true_and, Bool.and_true, show decide (f = i) = decide (i = f) from decide_eq_decide.mpr ⟨fun h => h.symm, fun h => h.symm⟩]
      · rw [up_ne hj, decide_eq_false (show ¬ sP σ f = j from fun z => hj z.symm), Bool.false_and, Bool.and_false, Bool.not_false, Bool.and_true]
    · rw [up_ne hq, decide_eq_false (show ¬ sR σ f = q from fun z => hq z.symm), Bool.and_false, Bool.and_false, Bool.not_false, Bool.and_true]
  unfold relCh
  generalize va_up (chS σ) (sR σ f) (va_up (chS σ (sR σ f)) (sP σ f) (andn (chS σ (sR σ f) (sP σ f)) (2 ^ f))) = g at e1
  have e : ((va_up g r (va_up (g r) (sP σ f) (g r (sP σ f) ||| 2 ^ f))) q j).testBit i = ((g q j).testBit i || (decide (i = f) && (decide (sP σ f = j) && decide (r = q)))) := by
    by_cases hq : q = r
    · subst hq
      rw [up_at]
      by_cases hj : j = sP σ f
      · subst hj; rw [up_at, fb_bit_set, decide_eq_true (rfl : sP σ f = sP σ f), decide_eq_true (rfl : q = q), Bool.true_and, Bool.and_true]
      · rw [up_ne hj, decide_eq_false (show ¬ sP σ f = j from fun z => hj z.symm), Bool.false_and, Bool.and_false, Bool.or_false]
    · rw [up_ne hq, decide_eq_false (show ¬ r = q from fun z => hq z.symm), Bool.and_false, Bool.and_false, Bool.or_false]
  rw [e, e1, chS_bit]
  by_cases hi : i = f
  · subst hi
    rw [up_at, decide_eq_true (rfl : i = i), decide_eq_true h1, decide_eq_true hf]
    cases decide (sP σ i = j) <;> cases decide (sR σ i = q) <;> cases decide (r = q) <;> rfl
  · rw [up_ne hi, decide_eq_false hi]
    simp
theorem on_con (σ : Sg) (j a b : Nat) : onS (conS σ j a b) = onS σ ||| 2 ^ sK σ := by
  refine bit_ext (fun i => ?_)
  unfold onS
  rw [fb_bit_set, maskN_bit, maskN_bit]
  show (decide (i < sK σ + 1) && va_up (sO σ) (sK σ) true i) = _
  rw [lt_one]
  by_cases hi : i = sK σ
  · subst hi; rw [up_at, decide_eq_true (rfl : sK σ = sK σ)]; simp
  · rw [up_ne hi, decide_eq_false hi]; simp
theorem on_trn {σ : Sg} {i : Nat} (b : Bool) (h : i < sK σ) : (if b = true then onS σ ||| 2 ^ i else andn (onS σ) (2 ^ i)) = onS (trnS σ i b) := by
  refine bit_ext (fun j => ?_)
  have e : (onS (trnS σ i b)).testBit j = (decide (j < sK σ) && va_up (sO σ) i b j) := maskN_bit _ _ _
  rw [e]
  have e2 : (onS σ).testBit j = (decide (j < sK σ) && sO σ j) := maskN_bit _ _ _
  cases b with
  | true =>
    rw [if_pos rfl, fb_bit_set, e2]
    by_cases hj : j = i
    · subst hj; rw [up_at, decide_eq_true h, decide_eq_true (rfl : j = j)]; simp
    · rw [up_ne hj, decide_eq_false hj, Bool.or_false]
  | false =>
    rw [if_neg Bool.false_ne_true, andn_bit, e2, pow_bit]
    by_cases hj : j = i
    · subst hj; rw [up_at, decide_eq_true (rfl : j = j)]; simp
    · rw [up_ne hj, decide_eq_false (show ¬ i = j from fun z => hj z.symm), Bool.not_false, Bool.and_true]
theorem on_drp (σ : Sg) (h : 1 ≤ sK σ) : andn (onS σ) (2 ^ (sK σ - 1)) = onS (drpS σ) := by
  refine bit_ext (fun j => ?_)
  have e : (onS (drpS σ)).testBit j = (decide (j < sK σ - 1) && sO σ j) := maskN_bit _ _ _
  have e2 : (onS σ).testBit j = (decide (j < sK σ) && sO σ j) := maskN_bit _ _ _
  rw [e, andn_bit, e2, pow_bit]
  by_cases h1 : j < sK σ - 1
  · rw [decide_eq_true h1, decide_eq_true (show j < sK σ by omega), decide_eq_false (show ¬ sK σ - 1 = j by omega)]; simp
  · by_cases h2 : j = sK σ - 1
    · rw [decide_eq_false h1, decide_eq_true (show sK σ - 1 = j by omega)]; simp
    · rw [decide_eq_false h1, decide_eq_false (show ¬ j < sK σ by omega)]; simp
theorem mark_dec {σ : Sg} {f d e : Nat} (hf : f < sN σ) (he : 1 ≤ e) : (if d = e then decM (sD σ) e (sN σ) ||| 2 ^ f else andn (decM (sD σ) e (sN σ)) (2 ^ f)) = decM (sD (decS σ f d)) e (sN (decS σ f d)) := by
  refine bit_ext (fun j => ?_)
  have e1 : (decM (sD (decS σ f d)) e (sN (decS σ f d))).testBit j = (decide (j < sN σ) && decide (va_up (sD σ) f d j = e)) := maskN_bit _ _ _
  have e2 : (decM (sD σ) e (sN σ)).testBit j = (decide (j < sN σ) && decide (sD σ j = e)) := maskN_bit _ _ _
  rw [e1]
  by_cases hd : d = e
  · rw [if_pos hd, fb_bit_set, e2]
    by_cases hj : j = f
    · subst hj; rw [up_at, decide_eq_true hf, decide_eq_true hd, decide_eq_true (rfl : j = j)]; simp
    · rw [up_ne hj, decide_eq_false hj, Bool.or_false]
  · rw [if_neg hd, andn_bit, e2, pow_bit]
    by_cases hj : j = f
    · subst hj; rw [up_at, decide_eq_false hd, decide_eq_true (rfl : j = j)]; simp
    · rw [up_ne hj, decide_eq_false (show ¬ f = j from fun z => hj z.symm), Bool.not_false, Bool.and_true]
theorem in_dec {σ : Sg} {f d : Nat} (hf : f < sN σ) : (if d = 1 then inS σ ||| 2 ^ f else andn (inS σ) (2 ^ f)) = inS (decS σ f d) := mark_dec hf (Nat.le_refl 1)
theorem ou_dec {σ : Sg} {f d : Nat} (hf : f < sN σ) : (if d = 2 then ouS σ ||| 2 ^ f else andn (ouS σ) (2 ^ f)) = ouS (decS σ f d) := mark_dec hf (by decide)
theorem isF_two {x : Int32} (h0 : ¬ x = 0) (h1 : ¬ x = nI 1) : isF x 2 = false := by
  cases h : isF x 2 with
  | false => rfl
  | true =>
    obtain ⟨f, hf, rfl⟩ := isF_ok (by decide) h
    have : f = 0 ∨ f = 1 := by omega
    rcases this with rfl | rfl
    · exact absurd rfl h0
    · exact absurd rfl h1
theorem on_bit {σ : Sg} {i : Nat} (h : i < sK σ) : (onS σ).testBit i = sO σ i := by
  have e2 : (onS σ).testBit i = (decide (i < sK σ) && sO σ i) := maskN_bit _ _ _
  rw [e2, decide_eq_true h, Bool.true_and]
theorem isF_two0 : isF 0 2 = true := isF_nI (n := 2) (f := 0) (by decide) (by decide)
theorem isF_two1 : isF (nI 1) 2 = true := isF_nI (n := 2) (f := 1) (by decide) (by decide)
theorem dec_add {σ : Sg} (h : WF σ) {p r e : Nat} (he : 1 ≤ e) : decM (sD (addS σ p r)) e (sN (addS σ p r)) = decM (sD σ) e (sN σ) := by
  refine bit_ext (fun j => ?_)
  have e1 : (decM (sD (addS σ p r)) e (sN (addS σ p r))).testBit j = (decide (j < sN σ + 1) && decide (sD σ j = e)) := maskN_bit _ _ _
  have e2 : (decM (sD σ) e (sN σ)).testBit j = (decide (j < sN σ) && decide (sD σ j = e)) := maskN_bit _ _ _
  rw [e1, e2, lt_one]
  by_cases hj : j = sN σ
  · subst hj
    have h0 := h.2.2.2.2.2.2.2.2.1 (sN σ) (Nat.le_refl _)
    rw [h0, decide_eq_false (show ¬ 0 = e by omega), Bool.and_false, Bool.and_false]
  · rw [decide_eq_false hj, Bool.or_false]
theorem in_add {σ : Sg} (h : WF σ) {p r : Nat} : inS (addS σ p r) = inS σ := dec_add h (Nat.le_refl 1)
theorem ou_add {σ : Sg} (h : WF σ) {p r : Nat} : ouS (addS σ p r) = ouS σ := dec_add h (by decide)
