/-! the class's answers in the same numbers -/
theorem forced_S {σ : Sg} (h : WF σ) {n : Nat} {g : Nat → Nat} (hr : RowOK (candB σ) (M2 σ) n g) : comN g n &&& maskN (fun f => decide (sD σ f = 0)) (sN σ) = opnS σ (cntC σ) := by
  refine bit_ext (fun f => ?_)
  unfold opnS
  rw [Nat.testBit_and, maskN_bit, maskN_bit]
  by_cases hf : f < sN σ
  · have h12 : f < 12 := Nat.lt_of_lt_of_le hf h.2.1
    rw [hr.com h12, decide_eq_true hf, Bool.true_and, Bool.true_and, Bool.and_comm]; rfl
  · rw [decide_eq_false hf, Bool.false_and, Bool.and_false, Bool.false_and]
theorem ruled_S {σ : Sg} {n : Nat} {g : Nat → Nat} (hr : RowOK (candB σ) (M2 σ) n g) : andn (maskN (fun f => decide (sD σ f = 0)) (sN σ)) (uniN g n) = opnS σ 0 := by
  refine bit_ext (fun f => ?_)
  unfold opnS
  rw [andn_bit, maskN_bit, maskN_bit, hr.uni f, Bool.not_not, Bool.and_assoc]; rfl
theorem in_reo (σ : Sg) : inS (reoS σ) = 0 := bit_ext (fun i => by
  unfold inS decM
  rw [maskN_bit, Nat.zero_testBit]
  show (_ && decide ((0 : Nat) = 1)) = false
  rw [show decide ((0 : Nat) = 1) = false from rfl, Bool.and_false])
theorem ou_reo (σ : Sg) : ouS (reoS σ) = 0 := bit_ext (fun i => by
  unfold ouS decM
  rw [maskN_bit, Nat.zero_testBit]
  show (_ && decide ((0 : Nat) = 2)) = false
  rw [show decide ((0 : Nat) = 2) = false from rfl, Bool.and_false])
theorem reo_ct {σ : Sg} (h : WF σ) : popc (inS σ ||| ouS σ) = fb_ct (fun f => !decide (sD σ f = 0)) (sN σ) := by
  have hn := h.2.1
  have hlt : inS σ ||| ouS σ < 2 ^ sN σ := Nat.or_lt_two_pow (maskN_lt _ _) (maskN_lt _ _)
  rw [popc_ct hlt (by omega)]
  refine fb_ct_cong (fun f hf => ?_)
  unfold inS ouS decM
  rw [Nat.testBit_or, maskN_bit, maskN_bit, decide_eq_true hf, Bool.true_and, Bool.true_and]
  have h3 := h.2.2.2.2.2.2.2.1 f
  have : sD σ f = 0 ∨ sD σ f = 1 ∨ sD σ f = 2 := by omega
  rcases this with h | h | h <;> rw [h] <;> rfl
theorem con_dg (σ : Sg) (d : Int64) : ∀ i, i ≤ sK σ → conF (onS σ) (sKd σ) (sA σ) (sB σ) d i = dgC σ d i
  | 0, _ => rfl
  | i + 1, h => by
    rw [conF_succ, con_dg σ d i (by omega)]
    unfold onS
    rw [maskN_bit, decide_eq_true (show i < sK σ by omega), Bool.true_and]; rfl
theorem abs2 {w all : Nat} (hw : w ≤ all) (ha : all < 100000) : (if 0 ≤ nI w - nI (all - w) then nI w - nI (all - w) else 0 - (nI w - nI (all - w))) = nI (dfN w all) := by
  have hs := pk_sub_toInt (a := w) (b := all - w) (by omega) (by omega)
  unfold dfN
  by_cases h : all ≤ 2 * w
  · rw [if_pos (by rw [Int32.le_iff_toInt_le, hs, Int32.toInt_zero]; omega), if_pos h, pk_sub (by omega), show w - (all - w) = 2 * w - all by omega]
  · rw [if_neg (by rw [Int32.le_iff_toInt_le, hs, Int32.toInt_zero]; omega), if_neg h]
    have e : (0 : Int32) - (nI w - nI (all - w)) = nI (all - w) - nI w := by
      rw [Int32.zero_sub, Int32.neg_sub]
    rw [e, pk_sub (by omega), show all - w - w = all - 2 * w by omega]
def quL (σ : Sg) (f : Nat) : Nat := if (quP σ f).1 = none then cntC σ else (quP σ f).2
theorem cw_le (σ : Sg) (f : Nat) : cwC σ f ≤ cntC σ := fb_ct_sub (fun c _ h => by rw [Bool.and_eq_true] at h; exact h.1)
theorem quL_le (σ : Sg) : ∀ f, quL σ f ≤ cntC σ
  | 0 => Nat.le_refl _
  | f + 1 => by
    have ih := quL_le σ f
    have hw := cw_le σ f
    by_cases hc : cwC σ f = 0 ∨ cwC σ f = cntC σ ∨ ((quP σ f).1 ≠ none ∧ (quP σ f).2 ≤ dfN (cwC σ f) (cntC σ))
    · unfold quL at ih ⊢
      rw [quP_keep hc]; exact ih
    · unfold quL
      rw [quP_take hc]
      show (if some f = none then cntC σ else dfN (cwC σ f) (cntC σ)) ≤ cntC σ
      rw [if_neg (fun z => nomatch z)]
      unfold dfN; split <;> omega
theorem qu_keep {σ : Sg} {f : Nat} (h : quL σ f ≤ dfN (cwC σ f) (cntC σ)) : quP σ (f + 1) = quP σ f := by
  apply quP_keep
  have hw := cw_le σ f
  unfold quL at h
  by_cases hn : (quP σ f).1 = none
  · rw [if_pos hn] at h
    unfold dfN at h
    split at h <;> omega
  · rw [if_neg hn] at h
    exact Or.inr (Or.inr ⟨hn, h⟩)
theorem qu_take {σ : Sg} {f : Nat} (h : dfN (cwC σ f) (cntC σ) < quL σ f) : quP σ (f + 1) = (some f, dfN (cwC σ f) (cntC σ)) := by
  apply quP_take
  have hl := quL_le σ f
  rintro (z | z | ⟨z, z2⟩)
  · unfold dfN at h; split at h <;> omega
  · unfold dfN at h; split at h <;> omega
  · unfold quL at h; rw [if_neg z] at h; omega
theorem quL_keep {σ : Sg} {f : Nat} (h : quL σ f ≤ dfN (cwC σ f) (cntC σ)) : quL σ (f + 1) = quL σ f := by unfold quL; rw [qu_keep h]
theorem quL_take {σ : Sg} {f : Nat} (h : dfN (cwC σ f) (cntC σ) < quL σ f) : quL σ (f + 1) = dfN (cwC σ f) (cntC σ) := by
  unfold quL; rw [qu_take h]; exact if_neg (fun z => nomatch z)
