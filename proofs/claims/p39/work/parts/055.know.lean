/-! what the reference knows of products and candidates -/
theorem kn_step {σ : Sg} {pr ca : Nat → Bool} {cs vs : Nat → Nat} {i x y : Nat} {b1 b2 : Bool} (h : ∀ c, c < i → pr c = prodB σ c ∧ ca c = candB σ c ∧ cs c = csS σ c ∧ vs c = vsS σ c) (h1 : b1 = prodB σ i) (h2 : b2 = candB σ i) (h3 : x = csS σ i) (h4 : y = vsS σ i) :
    ∀ c, c < i + 1 → va_up pr i b1 c = prodB σ c ∧ va_up ca i b2 c = candB σ c ∧ va_up cs i x c = csS σ c ∧ va_up vs i y c = vsS σ c := by
  intro c hc
  unfold va_up
  by_cases e : c = i
  · rw [if_pos e, if_pos e, if_pos e, if_pos e, e]; exact ⟨h1, h2, h3, h4⟩
  · rw [if_neg e, if_neg e, if_neg e, if_neg e]; exact h c (by omega)
section KN
variable {σ : Sg} {pr ca : Nat → Bool} {cs vs : Nat → Nat}
theorem kn_cp (h : KnOK σ pr ca cs vs) : fb_ct pr (2 ^ sN σ) = cntP σ := fb_ct_cong (fun c hc => (h c hc).1)
theorem kn_cc (h : KnOK σ pr ca cs vs) : fb_ct ca (2 ^ sN σ) = cntC σ := fb_ct_cong (fun c hc => (h c hc).2.1)
theorem kn_wp (h : KnOK σ pr ca cs vs) (f : Nat) : fb_ct (fun c => pr c && c.testBit f) (2 ^ sN σ) = cwP σ f := fb_ct_cong (fun c hc => by rw [(h c hc).1])
theorem kn_wc (h : KnOK σ pr ca cs vs) (f : Nat) : fb_ct (fun c => ca c && c.testBit f) (2 ^ sN σ) = cwC σ f := fb_ct_cong (fun c hc => by rw [(h c hc).2.1])
theorem allN_cong {p q : Nat → Bool} : ∀ {n : Nat}, (∀ c, c < n → p c = q c) → allN p n = allN q n
  | 0, _ => rfl
  | n + 1, h => by rw [allN_succ, allN_succ, allN_cong (fun c hc => h c (by omega)), h n (by omega)]
theorem kn_tg (h : KnOK σ pr ca cs vs) (a b : Nat) : allN (togB pr a b) (2 ^ sN σ) = togS σ a b := allN_cong (fun c hc => by unfold togB; rw [(h c hc).1])
theorem kn_fr (h : KnOK σ pr ca cs vs) {c : Nat} (hc : c < 2 ^ sN σ) : frtB ca cs vs c (2 ^ sN σ) = frtS σ c := by
  unfold frtS frtB
  rw [(h c hc).2.1]
  refine congrArg (fun z => candB σ c && z) (allN_cong (fun o ho => ?_))
  unfold nbB
  rw [(h o ho).2.1, (h o ho).2.2.1, (h o ho).2.2.2, (h c hc).2.2.1, (h c hc).2.2.2]
theorem kn_ow (h : KnOK σ pr ca cs vs) (many : Nat) : maskN (fun f => decide (sD σ f = 0) && decide (fb_ct (fun c => ca c && c.testBit f) (2 ^ sN σ) = many)) (sN σ) = opnS σ many := by
  unfold opnS
  refine congrArg (fun p => maskN p (sN σ)) (funext fun f => ?_)
  rw [kn_wc h f]
theorem kn_cs (h : KnOK σ pr ca cs vs) (hwf : WF σ) : ∀ c, c < 2 ^ sN σ → cs c < 100000 := fun c hc => by
  have := csS_le hwf c
  rw [(h c hc).2.2.1]; omega
theorem kn_vs (h : KnOK σ pr ca cs vs) (hwf : WF σ) : ∀ c, c < 2 ^ sN σ → vs c < 100000 := fun c hc => by
  have := vsS_le hwf c
  rw [(h c hc).2.2.2]; omega
end KN
theorem cntP_le {σ : Sg} (h : WF σ) : cntP σ ≤ 4096 := Nat.le_trans (fb_ct_le _ _) (pow12 h.2.1)
theorem cntC_le {σ : Sg} (h : WF σ) : cntC σ ≤ 4096 := Nat.le_trans (fb_ct_le _ _) (pow12 h.2.1)
theorem cwP_le {σ : Sg} (h : WF σ) (f : Nat) : cwP σ f ≤ 4096 := Nat.le_trans (fb_ct_le _ _) (pow12 h.2.1)
theorem cwC_le {σ : Sg} (h : WF σ) (f : Nat) : cwC σ f ≤ 4096 := Nat.le_trans (fb_ct_le _ _) (pow12 h.2.1)
/-- the member with a number -/
theorem nthN_eq {p : Nat → Bool} {c j : Nat} (hp : p c = true) (hj : fb_ct p c = j) : ∀ {M : Nat}, c < M → nthN p j M = c
  | 0, h => absurd h (Nat.not_lt_zero c)
  | M + 1, h => by
    show (if p M = true ∧ fb_ct p M = j then M else nthN p j M) = c
    rcases Nat.lt_or_ge c M with q | q
    · rw [if_neg (fun z => ?_)]
      · exact nthN_eq hp hj q
      · have h1 := fb_ct_mono p (m := c + 1) (n := M) (by omega)
        rw [fb_ct_succ, hp, if_pos rfl] at h1
        omega
    · have e : c = M := by omega
      subst e
      rw [if_pos ⟨hp, hj⟩]
theorem fb_ct_lt {p : Nat → Bool} {c M : Nat} (hp : p c = true) (h : c < M) : fb_ct p c < fb_ct p M := by
  have h1 := fb_ct_mono p (m := c + 1) (n := M) (by omega)
  rw [fb_ct_succ, hp, if_pos rfl] at h1
  omega
theorem nthN_cong {p q : Nat → Bool} {j : Nat} : ∀ {M : Nat}, (∀ c, c < M → p c = q c) → nthN p j M = nthN q j M
  | 0, _ => rfl
  | M + 1, h => by
    show (if p M = true ∧ fb_ct p M = j then M else nthN p j M) = (if q M = true ∧ fb_ct q M = j then M else nthN q j M)
    rw [h M (by omega), fb_ct_cong (fun c hc => h c (by omega)), nthN_cong (fun c hc => h c (by omega))]
theorem sub_one (x : Int32) (m : Nat) : x - nI m + (-1) = x - nI (m + 1) := by
  simp [nI_succ, Int32.sub_eq_add_neg, Int32.neg_add, Int32.add_assoc]
theorem sub_zero' (x : Int32) : x - nI 0 = x := by rw [show nI 0 = (0 : Int32) from rfl, Int32.sub_zero]
theorem nI_sub0 {a b : Nat} (ha : a < 2147483648) (hb : b ≤ a) : nI a - nI b = 0 ↔ a = b := by
  rw [pk_sub hb, show (0 : Int32) = nI 0 from rfl, nI_eq (by omega) (by decide)]
  omega
theorem nI_subneg {a b : Nat} (ha : a < 1073741824) (hb : b < 1073741824) : nI a - nI b < 0 ↔ a < b := by
  rw [Int32.lt_iff_toInt_lt, pk_sub_toInt ha hb, Int32.toInt_zero]; omega
theorem nI_subpos {a b : Nat} (ha : a < 1073741824) (hb : b < 1073741824) : 0 < nI a - nI b ↔ b < a := by
  rw [Int32.lt_iff_toInt_lt, pk_sub_toInt ha hb, Int32.toInt_zero]; omega
theorem nI_subz {a b : Nat} (ha : a < 1073741824) (hb : b < 1073741824) : nI a - nI b = 0 ↔ a = b := by
  constructor
  · intro h
    have h1 := congrArg Int32.toInt h
    rw [pk_sub_toInt ha hb, Int32.toInt_zero] at h1
    omega
  · intro h; rw [h, Int32.sub_self]
/-- the first of the least -/
theorem fstO_lt {p : Nat → Bool} {bt : Nat → Nat → Bool} : ∀ {i b : Nat}, fstO p bt i = some b → b < i ∧ p b = true
  | 0, b, h => nomatch h
  | i + 1, b, h => by
    simp only [fstO] at h
    split at h
    · rename_i hp
      cases hq : fstO p bt i with
      | none => rw [hq] at h; cases h; exact ⟨by omega, hp⟩
      | some d =>
        rw [hq] at h
        have h1 := fstO_lt hq
        simp only at h
        split at h
        · cases h; exact ⟨by omega, hp⟩
        · cases h; exact ⟨by omega, h1.2⟩
    · have h1 := fstO_lt h
      exact ⟨by omega, h1.2⟩
theorem fstO_no {p : Nat → Bool} {bt : Nat → Nat → Bool} {i : Nat} (h : p i = false) : fstO p bt (i + 1) = fstO p bt i := by
  simp only [fstO]; rw [if_neg (by rw [h]; decide)]
theorem fstO_first {p : Nat → Bool} {bt : Nat → Nat → Bool} {i : Nat} (h : p i = true) (hn : fstO p bt i = none) : fstO p bt (i + 1) = some i := by
  simp only [fstO]; rw [if_pos h, hn]
theorem fstO_better {p : Nat → Bool} {bt : Nat → Nat → Bool} {i b : Nat} (h : p i = true) (hn : fstO p bt i = some b) (hb : bt i b = true) : fstO p bt (i + 1) = some i := by
  simp only [fstO]; rw [if_pos h, hn]; simp only; rw [if_pos hb]
theorem fstO_keep {p : Nat → Bool} {bt : Nat → Nat → Bool} {i b : Nat} (h : p i = true) (hn : fstO p bt i = some b) (hb : bt i b = false) : fstO p bt (i + 1) = some b := by
  simp only [fstO]; rw [if_pos h, hn]; simp only; rw [if_neg (by rw [hb]; decide)]
theorem blO_lt {σ : Sg} (hwf : WF σ) {f : Nat} : ∀ {i b : Nat}, blO σ f i = some b → b < 1024
  | 0, b, h => nomatch h
  | i + 1, b, h => by
    have hk : cnN (sKd σ) (sA σ) (sB σ) (sO σ) i (sK σ) < 1024 := cnN_lt _ _ _ _ _ hwf.2.2.2.2.2.2.2.2.2.1
    simp only [blO] at h
    split at h
    · cases hq : blO σ f i with
      | none => rw [hq] at h; cases h; exact hk
      | some d =>
        rw [hq] at h
        have h1 := blO_lt hwf hq
        simp only at h
        split at h
        · cases h; exact hk
        · cases h; exact h1
    · exact blO_lt hwf h
theorem blO_no {σ : Sg} {f i : Nat} (h : ¬ (i.testBit f = true ∧ treeN (sN σ) (sP σ) (sR σ) i = 0)) : blO σ f (i + 1) = blO σ f i := by
  simp only [blO]; rw [if_neg h]
theorem blO_first {σ : Sg} {f i : Nat} (h : i.testBit f = true ∧ treeN (sN σ) (sP σ) (sR σ) i = 0) (hn : blO σ f i = none) : blO σ f (i + 1) = some (cnN (sKd σ) (sA σ) (sB σ) (sO σ) i (sK σ)) := by
  simp only [blO]; rw [if_pos h, hn]
theorem blO_less {σ : Sg} {f i b : Nat} (h : i.testBit f = true ∧ treeN (sN σ) (sP σ) (sR σ) i = 0) (hn : blO σ f i = some b) (hl : lessB (cnN (sKd σ) (sA σ) (sB σ) (sO σ) i (sK σ)) b = true) : blO σ f (i + 1) = some (cnN (sKd σ) (sA σ) (sB σ) (sO σ) i (sK σ)) := by
  simp only [blO]; rw [if_pos h, hn]; simp only; rw [if_pos hl]
theorem blO_keep {σ : Sg} {f i b : Nat} (h : i.testBit f = true ∧ treeN (sN σ) (sP σ) (sR σ) i = 0) (hn : blO σ f i = some b) (hl : lessB (cnN (sKd σ) (sA σ) (sB σ) (sO σ) i (sK σ)) b = false) : blO σ f (i + 1) = some b := by
  simp only [blO]; rw [if_pos h, hn]; simp only; rw [if_neg (by rw [hl]; decide)]
theorem lessB_t1 {a b : Nat} (h : popc a < popc b) : lessB a b = true := by unfold lessB; rw [decide_eq_true h]; rfl
theorem lessB_t2 {a b : Nat} (h : popc a = popc b) (h2 : a < b) : lessB a b = true := by unfold lessB; rw [decide_eq_true h, decide_eq_true h2]; exact Bool.or_true _
theorem lessB_f1 {a b : Nat} (h0 : popc b ≤ popc a) (h : ¬ popc a = popc b) : lessB a b = false := by
  unfold lessB; rw [decide_eq_false (by omega), decide_eq_false h]; rfl
theorem lessB_f2 {a b : Nat} (h0 : popc b ≤ popc a) (h2 : b ≤ a) : lessB a b = false := by
  unfold lessB; rw [decide_eq_false (by omega), show decide (a < b) = false from decide_eq_false (by omega), Bool.and_false]; rfl
theorem quP_take {σ : Sg} {f : Nat} (h : ¬ (cwC σ f = 0 ∨ cwC σ f = cntC σ ∨ ((quP σ f).1 ≠ none ∧ (quP σ f).2 ≤ dfN (cwC σ f) (cntC σ)))) : quP σ (f + 1) = (some f, dfN (cwC σ f) (cntC σ)) := if_neg h
theorem quP_keep {σ : Sg} {f : Nat} (h : cwC σ f = 0 ∨ cwC σ f = cntC σ ∨ ((quP σ f).1 ≠ none ∧ (quP σ f).2 ≤ dfN (cwC σ f) (cntC σ))) : quP σ (f + 1) = quP σ f := if_pos h
theorem quP_lt {σ : Sg} : ∀ {i b : Nat}, (quP σ i).1 = some b → b < i
  | 0, b, h => nomatch h
  | i + 1, b, h => by
    by_cases hc : cwC σ i = 0 ∨ cwC σ i = cntC σ ∨ ((quP σ i).1 ≠ none ∧ (quP σ i).2 ≤ dfN (cwC σ i) (cntC σ))
    · rw [quP_keep hc] at h
      have := quP_lt h
      omega
    · rw [quP_take hc] at h
      cases h
      omega
theorem quP_le {σ : Sg} (hwf : WF σ) : ∀ {i : Nat}, (quP σ i).2 ≤ 8192
  | 0 => by show 0 ≤ 8192; decide
  | i + 1 => by
    by_cases hc : cwC σ i = 0 ∨ cwC σ i = cntC σ ∨ ((quP σ i).1 ≠ none ∧ (quP σ i).2 ≤ dfN (cwC σ i) (cntC σ))
    · rw [quP_keep hc]; exact quP_le hwf
    · rw [quP_take hc]
      have h1 := cwC_le hwf i
      have h2 := cntC_le hwf
      show dfN (cwC σ i) (cntC σ) ≤ 8192
      unfold dfN; split <;> omega
theorem absN {w all : Nat} (hw : w < 100000) (ha : all < 100000) : (if 0 ≤ nI (2 * w) - nI all then nI (2 * w) - nI all else 0 - (nI (2 * w) - nI all)) = nI (dfN w all) := by
  have hs := pk_sub_toInt (a := 2 * w) (b := all) (by omega) (by omega)
  unfold dfN
  by_cases h : all ≤ 2 * w
  · rw [if_pos (by rw [Int32.le_iff_toInt_le, hs, Int32.toInt_zero]; omega), if_pos h, pk_sub h]
  · rw [if_neg (by rw [Int32.le_iff_toInt_le, hs, Int32.toInt_zero]; omega), if_neg h]
    have e : (0 : Int32) - (nI (2 * w) - nI all) = nI all - nI (2 * w) := by
      rw [Int32.zero_sub, Int32.neg_sub]
    rw [e, pk_sub (by omega)]
theorem xor_lt12 {a b : Nat} (ha : a < 4096) (hb : b < 4096) : a ^^^ b < 4096 := Nat.xor_lt_two_pow (n := 12) ha hb
theorem treeN_lt (pa rl : Nat → Nat) (c : Nat) {n : Nat} (hn : n ≤ 12) : treeN n pa rl c ≤ 100 := by
  have h1 : ∀ i, tr1 pa rl c i ≤ 2 * i := fun i => by
    induction i with
    | zero => exact Nat.le_refl 0
    | succ i ih => rw [tr1_succ]; split <;> (try split) <;> (try split) <;> omega
  have h2 : ∀ i, tr2 pa rl n c i ≤ 2 * i := fun i => by
    induction i with
    | zero => exact Nat.le_refl 0
    | succ i ih => rw [tr2_succ]; split <;> (try split) <;> (try split) <;> omega
  have a := h1 n
  have b := h2 n
  unfold treeN
  split <;> omega
theorem isF_of_e {b : Bool} (h : e_if b = 0) : b = true := by
  unfold e_if at h
  cases b with
  | true => rfl
  | false => exact absurd h (by decide)
/-- the walk to the front's member with a number -/
theorem front_neg {x lf : Int32} {m : Nat} (hm : m ≤ 4096) {q : Nat} (el : lf = x - nI q) (hj : ∀ j, j < 2147483648 → x = nI j → q ≤ j) (h : lf < 0) : x < 0 := by
  rcases pk_ix x (n := 2147483647) (by decide) with z | z | ⟨j, hj8, ej⟩
  · exact z
  · exfalso
    have e2 : x = nI 2147483647 := by
      apply Int32.le_antisymm
      · rw [Int32.le_iff_toInt_le]
        have h2 := Int32.toInt_lt x
        have h3 : (nI 2147483647).toInt = 2147483647 := nI_toInt (by decide)
        omega
      · exact z
    have h3 := hj 2147483647 (by decide) e2
    rw [el, e2, pk_sub h3] at h
    exact nI_pos (by omega) h
  · exfalso
    have h3 := hj j (by omega) ej
    rw [el, ej, pk_sub h3] at h
    exact nI_pos (by omega) h
theorem front_pos {x lf : Int32} {c : Nat} {p : Nat → Bool} (el : lf = x - nI (fb_ct p c)) (hz : x < 0 → c = 0) (h : ¬ lf < 0) : ∃ j : Nat, j < 2147483648 ∧ x = nI j := by
  apply nI_of
  intro hx
  have hc := hz hx
  subst hc
  apply h
  rw [el]
  show x - nI 0 < 0
  rw [show x - nI 0 = x from Int32.sub_zero x]
  exact hx
theorem front_end {x : Int32} {c M : Nat} {p : Nat → Bool} (hm : fb_ct p M ≤ 4096) (hc : c = M) (hj : ∀ j, j < 2147483648 → x = nI j → fb_ct p c ≤ j) : isF x (fb_ct p M) = false := by
  subst hc
  rcases pk_ix x (n := 2147483647) (by decide) with z | z | ⟨j, hj8, ej⟩
  · exact isF_neg z
  · exact isF_up (Int32.le_trans (nI_le (by omega) (by decide)) z)
  · rw [ej]; exact isF_up (nI_le (hj j (by omega) ej) (by omega))
theorem front_next0 {x : Int32} {c : Nat} {p : Nat → Bool} (hj : ∀ j, j < 2147483648 → x = nI j → fb_ct p c ≤ j) (hp : p c = false) : ∀ j, j < 2147483648 → x = nI j → fb_ct p (c + 1) ≤ j := by
  rw [fb_ct_succ, hp, if_neg (by decide), Nat.add_zero]; exact hj
theorem front_one {x lf : Int32} {c j9 : Nat} {p : Nat → Bool} (el : lf = x - nI (fb_ct p c)) (ej : x = nI j9) (hj9 : j9 < 2147483648) (hle : fb_ct p c ≤ j9) : lf - nI 1 < 0 ↔ j9 = fb_ct p c := by
  rw [el, ej, pk_sub hle]
  constructor
  · intro h
    by_cases hk : j9 = fb_ct p c
    · exact hk
    · exfalso
      rw [pk_sub (by omega)] at h
      exact nI_pos (by omega) h
  · intro h
    rw [h, Nat.sub_self]
    decide
theorem ge0 {x : Int32} : 0 ≤ x ↔ ¬ x < 0 := by rw [Int32.not_lt]
theorem front_next {x lf : Int32} {c j9 : Nat} {p : Nat → Bool} (el : lf = x - nI (fb_ct p c)) (ej : x = nI j9) (hj9 : j9 < 2147483648) (hle : fb_ct p c ≤ j9) (hp : p c = true) (q : 0 ≤ lf - nI 1) : ∀ j, j < 2147483648 → x = nI j → fb_ct p (c + 1) ≤ j := fun j h1 h2 => by
  have hne : ¬ j9 = fb_ct p c := fun z => ge0.mp q ((front_one el ej hj9 hle).mpr z)
  rw [fb_ct_succ, hp, if_pos rfl]
  have h3 := (nI_eq h1 hj9).mp (h2.symm.trans ej)
  omega
theorem front_hit {x lf : Int32} {c j9 : Nat} {p : Nat → Bool} (el : lf = x - nI (fb_ct p c)) (ej : x = nI j9) (hj9 : j9 < 2147483648) (hle : fb_ct p c ≤ j9) (q : ¬ 0 ≤ lf - nI 1) : j9 = fb_ct p c :=
  (front_one el ej hj9 hle).mp (Int32.not_le.mp q)
theorem front_hit0 {x lf : Int32} {c j9 : Nat} {p : Nat → Bool} (el : lf = x - nI (fb_ct p c)) (ej : x = nI j9) (hle : fb_ct p c ≤ j9) (hj9 : j9 < 2147483648) (q : ¬ 0 ≤ lf - nI 0) : False := by
  apply q
  rw [show lf - nI 0 = lf from Int32.sub_zero lf, el, ej, pk_sub hle]
  exact ge0.mpr (nI_pos (by omega))
theorem sub_oneN (x : Int32) (a : Nat) : x - nI a - nI 1 = x - nI (a + 1) := by simp [nI_succ, Int32.sub_eq_add_neg, Int32.neg_add, Int32.add_assoc, show nI 0 = (0 : Int32) from rfl]
