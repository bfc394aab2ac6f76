/-! arguments that are in range, or not -/
theorem isF_neg {y : Int32} {n : Nat} (h : y < 0) : isF y n = false := by
  unfold isF; rw [decide_eq_false (fun z => z h)]; rfl
theorem isF_up {y : Int32} {n : Nat} (h : nI n ≤ y) : isF y n = false := by
  unfold isF; rw [show decide (¬ nI n ≤ y) = false from decide_eq_false (fun z => z h), Bool.and_false]
theorem isF_yes {y : Int32} {n : Nat} (h : ¬ y < 0) (h2 : ¬ nI n ≤ y) : isF y n = true := by
  unfold isF; rw [decide_eq_true h, decide_eq_true h2]; rfl
theorem le_succ {y : Int32} {m : Nat} (hm : m < 2147483647) : nI (m + 1) ≤ y ↔ nI m < y := by
  rw [Int32.le_iff_toInt_le, Int32.lt_iff_toInt_lt, nI_toInt (by omega), nI_toInt (by omega)]
  omega
theorem isF_big {y : Int32} {m : Nat} (hm : m < 2147483647) (h : ¬ y ≤ nI m) : isF y (m + 1) = false := isF_up ((le_succ hm).mpr (Int32.not_le.mp h))
theorem isF_big' {y : Int32} {m : Nat} (hm : m < 2147483647) (h : nI m < y) : isF y (m + 1) = false := isF_up ((le_succ hm).mpr h)
theorem isF_in {y : Int32} {m : Nat} (hm : m < 2147483647) (h0 : ¬ y < 0) (h : y ≤ nI m) : isF y (m + 1) = true := isF_yes h0 (fun z => Int32.not_le.mpr ((le_succ hm).mp z) h)
theorem isF_in' {y : Int32} {m : Nat} (hm : m < 2147483647) (h0 : ¬ y < 0) (h : ¬ nI m < y) : isF y (m + 1) = true := isF_yes h0 (fun z => h ((le_succ hm).mp z))
theorem isF_ge {y : Int32} {n : Nat} (h : ¬ y < nI n) : isF y n = false := isF_up (Int32.not_lt.mp h)
theorem isF_lt {y : Int32} {n : Nat} (h0 : ¬ y < 0) (h : y < nI n) : isF y n = true := isF_yes h0 (Int32.not_le.mpr h)
theorem isF_lt' {y : Int32} {n : Nat} (h0 : ¬ y < 0) (h : ¬ nI n ≤ y) : isF y n = true := isF_yes h0 h
theorem nI_0' {f : Nat} (hf : f < 2147483648) : nI f = 0 ↔ f = 0 := nI_eq hf (by decide)
theorem s_add_ok {σ : Sg} {p r : Int32} (h : e_add σ p r = 0) : s_add σ p r = addS σ (tn p) (tn r) := if_pos h
theorem s_add_no {σ : Sg} {p r : Int32} {j : Nat} (h : e_add σ p r = j + 1) : s_add σ p r = σ := if_neg (by omega)
theorem s_rel_ok {σ : Sg} {p r : Int32} (h : e_rel σ p r = 0) : s_rel σ p r = relS σ (tn p) (tn r) := if_pos h
theorem s_rel_no {σ : Sg} {p r : Int32} {j : Nat} (h : e_rel σ p r = j + 1) : s_rel σ p r = σ := if_neg (by omega)
theorem s_wor_ok {σ : Sg} {f x y : Int32} (h : e_wor σ f x y = 0) : s_wor σ f x y = worS σ (tn f) (tn x) (tn y) := if_pos h
theorem s_wor_no {σ : Sg} {f x y : Int32} {j : Nat} (h : e_wor σ f x y = j + 1) : s_wor σ f x y = σ := if_neg (by omega)
theorem s_con_ok {σ : Sg} {f x y : Int32} (h : e_con σ f x y = 0) : s_con σ f x y = conS σ (tn f) (tn x) (tn y) := if_pos h
theorem s_con_no {σ : Sg} {f x y : Int32} {j : Nat} (h : e_con σ f x y = j + 1) : s_con σ f x y = σ := if_neg (by omega)
theorem s_trn_ok {σ : Sg} {i : Int32} {b : Bool} (h : e_trn σ i = 0) : s_trn σ i b = trnS σ (tn i) b := if_pos h
theorem s_trn_no {σ : Sg} {i : Int32} {b : Bool} {j : Nat} (h : e_trn σ i = j + 1) : s_trn σ i b = σ := if_neg (by omega)
theorem s_drp_ok {σ : Sg} (h : e_drp σ = 0) : s_drp σ = drpS σ := if_pos h
theorem s_drp_no {σ : Sg} {j : Nat} (h : e_drp σ = j + 1) : s_drp σ = σ := if_neg (by omega)
theorem s_dec_ok {σ : Sg} {p r : Int32} (h : e_dec σ p r = 0) : s_dec σ p r = decS σ (tn p) (tn r) := if_pos h
theorem s_dec_no {σ : Sg} {p r : Int32} {j : Nat} (h : e_dec σ p r = j + 1) : s_dec σ p r = σ := if_neg (by omega)
theorem s_bud_ok {σ : Sg} {b : Int32} (h : e_bud b = 0) : s_bud σ b = budS σ b := if_pos h
theorem s_bud_no {σ : Sg} {b : Int32} {j : Nat} (h : e_bud b = j + 1) : s_bud σ b = σ := if_neg (by omega)
/-- the state is well formed behind each step -/
theorem up_all {α : Type} {P : α → Prop} {f : Nat → α} {k : Nat} {v : α} (h : ∀ i, P (f i)) (hv : P v) : ∀ i, P (va_up f k v i) := fun i => by
  unfold va_up; split
  · exact hv
  · exact h i
theorem WF_add {σ : Sg} {p r : Nat} (h : WF σ) (hn : sN σ < 12) (hp : p < sN σ) (hr : r < 4) : WF (addS σ p r) := by
  obtain ⟨h1, h2, h3, h4, h5, h6, h7, h8, h9, h10, h11, h12, h13⟩ := h
  refine ⟨by show 1 ≤ sN σ + 1; omega, by show sN σ + 1 ≤ 12; omega, fun i hi hi2 => ?_, up_all (P := fun z => z < 12) h4 (by omega), up_all (P := fun z => z < 4) h5 hr, h6, h7, h8, fun i hi => h9 i (by have : sN (addS σ p r) = sN σ + 1 := rfl; omega), h10, h11, h12, h13⟩
  show va_up (sP σ) (sN σ) p i < i
  have e : sN (addS σ p r) = sN σ + 1 := rfl
  unfold va_up
  split
  · omega
  · exact h3 i hi (by omega)
theorem WF_rel {σ : Sg} {f r : Nat} (h : WF σ) (hr : r < 4) : WF (relS σ f r) := by
  obtain ⟨h1, h2, h3, h4, h5, h6, h7, h8, h9, h10, h11, h12, h13⟩ := h
  exact ⟨h1, h2, h3, h4, up_all (P := fun z => z < 4) h5 hr, h6, h7, h8, h9, h10, h11, h12, h13⟩
theorem WF_wor {σ : Sg} {f x y : Nat} (h : WF σ) (hx : x ≤ 1000) (hy : y ≤ 1000) : WF (worS σ f x y) := by
  obtain ⟨h1, h2, h3, h4, h5, h6, h7, h8, h9, h10, h11, h12, h13⟩ := h
  exact ⟨h1, h2, h3, h4, h5, up_all (P := fun z => z ≤ 1000) h6 hx, up_all (P := fun z => z ≤ 1000) h7 hy, h8, h9, h10, h11, h12, h13⟩
theorem WF_con {σ : Sg} {j a b : Nat} (h : WF σ) (hK : sK σ < 10) (hj : j < 2) (ha : a < 12) (hb : b < 12) : WF (conS σ j a b) := by
  obtain ⟨h1, h2, h3, h4, h5, h6, h7, h8, h9, h10, h11, h12, h13⟩ := h
  exact ⟨h1, h2, h3, h4, h5, h6, h7, h8, h9, by show sK σ + 1 ≤ 10; omega, up_all (P := fun z => z < 2) h11 hj, up_all (P := fun z => z < 12) h12 ha, up_all (P := fun z => z < 12) h13 hb⟩
theorem WF_trn {σ : Sg} {i : Nat} {b : Bool} (h : WF σ) : WF (trnS σ i b) := h
theorem WF_drp {σ : Sg} (h : WF σ) : WF (drpS σ) := by
  obtain ⟨h1, h2, h3, h4, h5, h6, h7, h8, h9, h10, h11, h12, h13⟩ := h
  exact ⟨h1, h2, h3, h4, h5, h6, h7, h8, h9, by show sK σ - 1 ≤ 10; omega, h11, h12, h13⟩
theorem WF_dec {σ : Sg} {f d : Nat} (h : WF σ) (hf : f < sN σ) (hd : d < 3) : WF (decS σ f d) := by
  obtain ⟨h1, h2, h3, h4, h5, h6, h7, h8, h9, h10, h11, h12, h13⟩ := h
  refine ⟨h1, h2, h3, h4, h5, h6, h7, up_all (P := fun z => z < 3) h8 hd, fun i hi => ?_, h10, h11, h12, h13⟩
  have e : sN (decS σ f d) = sN σ := rfl
  show va_up (sD σ) f d i = 0
  unfold va_up
  rw [if_neg (by omega)]
  exact h9 i (by omega)
theorem WF_reo {σ : Sg} (h : WF σ) : WF (reoS σ) := by
  obtain ⟨h1, h2, h3, h4, h5, h6, h7, h8, h9, h10, h11, h12, h13⟩ := h
  exact ⟨h1, h2, h3, h4, h5, h6, h7, fun _ => by show 0 < 3; decide, fun _ _ => rfl, h10, h11, h12, h13⟩
theorem WF_bud {σ : Sg} {b : Int32} (h : WF σ) : WF (budS σ b) := h
/-- nothing is known of the products, nor of the sample -/
theorem MOK_new {σ' : Sg} {t : Nat} {x : Mx} (h : WF σ') : MOK σ' (t, false, mPr x, mCa x, mCs x, mVs x, false, mPo x, mSm x, mSp x, mMi x) := by
  refine ⟨h, ?_, ?_⟩
  · intro z; exact Bool.noConfusion (show false = true from z)
  · intro z; exact Bool.noConfusion (show false = true from z)
theorem MOK_t {σ : Sg} {t : Nat} {x : Mx} (h : MOK σ x) : MOK σ (t, mKn x, mPr x, mCa x, mCs x, mVs x, mSa x, mPo x, mSm x, mSp x, mMi x) := h
theorem M2_eq (σ : Sg) : M2 σ = 2 ^ sN σ := rfl
theorem csS_le {σ : Sg} (h : WF σ) (c : Nat) : csS σ c ≤ 12000 := by
  have h1 := sumN_le (g := sC σ) (M := 1000) c (n := sN σ) (fun i _ => h.2.2.2.2.2.1 i)
  have h2 := h.2.1
  unfold csS
  omega
theorem vsS_le {σ : Sg} (h : WF σ) (c : Nat) : vsS σ c ≤ 12000 := by
  have h1 := sumN_le (g := sV σ) (M := 1000) c (n := sN σ) (fun i _ => h.2.2.2.2.2.2.1 i)
  have h2 := h.2.1
  unfold vsS
  omega
def zerN (f : Nat → Nat) : Nat → Nat → Nat
  | 0 => f
  | i + 1 => va_up (zerN f i) i 0
theorem zerN_hi (f : Nat → Nat) : ∀ i j, i ≤ j → zerN f i j = f j
  | 0, j, _ => rfl
  | i + 1, j, h => by
    show (if j = i then 0 else zerN f i j) = f j
    rw [if_neg (by omega)]
    exact zerN_hi f i j (by omega)
theorem zerN_lo (f : Nat → Nat) : ∀ i j, j < i → zerN f i j = 0
  | 0, j, h => absurd h (Nat.not_lt_zero j)
  | i + 1, j, h => by
    show (if j = i then 0 else zerN f i j) = 0
    split
    · rfl
    · exact zerN_lo f i j (by omega)
theorem zerN_at {f : Nat → Nat} {n : Nat} (h : ∀ i, n ≤ i → f i = 0) (j : Nat) : zerN f n j = 0 := by
  rcases Nat.lt_or_ge j n with q | q
  · exact zerN_lo f n j q
  · rw [zerN_hi f n j q]; exact h j q
theorem maskN_lt (p : Nat → Bool) : ∀ n, maskN p n < 2 ^ n
  | 0 => by show 0 < 1; decide
  | n + 1 => by
    have h := maskN_lt p n
    have e : 2 ^ (n + 1) = 2 * 2 ^ n := by rw [Nat.pow_succ]; omega
    rw [maskN_succ]
    split
    · exact Nat.or_lt_two_pow (by omega) (by rw [e]; have := Nat.one_le_two_pow (n := n); omega)
    · omega
theorem maskN_lt' (p : Nat → Bool) {n m : Nat} (h : n ≤ m) : maskN p n < 2 ^ m := Nat.lt_of_lt_of_le (maskN_lt p n) (Nat.pow_le_pow_right (by decide) h)
theorem cnN_lt (kd fa fb : Nat → Nat) (on : Nat → Bool) (c : Nat) {n : Nat} (h : n ≤ 10) : cnN kd fa fb on c n < 1024 := maskN_lt' _ h
