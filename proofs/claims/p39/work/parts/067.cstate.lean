/-! the class's own cells, in the same numbers; its rows are kept until something changes them -/
/-- shapes, products, candidates, unbeaten, samples: known, size, members; the ladder's row, its length and contents; the board -/
abbrev Cx : Type := Bool × Nat × (Nat → Nat) × Bool × Nat × (Nat → Nat) × Bool × Nat × (Nat → Nat) × Bool × Nat × (Nat → Nat) × Bool × Nat × (Nat → Nat) × Nat × Nat × (Nat → Int32) × (Nat → Nat)
def cK1 (x : Cx) : Bool := x.1
def cN1 (x : Cx) : Nat := x.2.1
def cG1 (x : Cx) : Nat → Nat := x.2.2.1
def cK2 (x : Cx) : Bool := x.2.2.2.1
def cN2 (x : Cx) : Nat := x.2.2.2.2.1
def cG2 (x : Cx) : Nat → Nat := x.2.2.2.2.2.1
def cK3 (x : Cx) : Bool := x.2.2.2.2.2.2.1
def cN3 (x : Cx) : Nat := x.2.2.2.2.2.2.2.1
def cG3 (x : Cx) : Nat → Nat := x.2.2.2.2.2.2.2.2.1
def cK4 (x : Cx) : Bool := x.2.2.2.2.2.2.2.2.2.1
def cN4 (x : Cx) : Nat := x.2.2.2.2.2.2.2.2.2.2.1
def cG4 (x : Cx) : Nat → Nat := x.2.2.2.2.2.2.2.2.2.2.2.1
def cK5 (x : Cx) : Bool := x.2.2.2.2.2.2.2.2.2.2.2.2.1
def cN5 (x : Cx) : Nat := x.2.2.2.2.2.2.2.2.2.2.2.2.2.1
def cG5 (x : Cx) : Nat → Nat := x.2.2.2.2.2.2.2.2.2.2.2.2.2.2.1
def cLa (x : Cx) : Nat := x.2.2.2.2.2.2.2.2.2.2.2.2.2.2.2.1
def cLn (x : Cx) : Nat := x.2.2.2.2.2.2.2.2.2.2.2.2.2.2.2.2.1
def cLf (x : Cx) : Nat → Int32 := x.2.2.2.2.2.2.2.2.2.2.2.2.2.2.2.2.2.1
def cSh (x : Cx) : Nat → Nat := x.2.2.2.2.2.2.2.2.2.2.2.2.2.2.2.2.2.2
def onS (σ : Sg) : Nat := maskN (sO σ) (sK σ)
def inS (σ : Sg) : Nat := decM (sD σ) 1 (sN σ)
def ouS (σ : Sg) : Nat := decM (sD σ) 2 (sN σ)
def offS (σ : Sg) : Nat → Nat := offM (sN σ) (sP σ)
def chS (σ : Sg) : Nat → Nat → Nat := chM (sN σ) (sP σ) (sR σ)
/-- no rule of the tree is broken -/
def shpB (σ : Sg) (c : Nat) : Bool := decide (treeN (sN σ) (sP σ) (sR σ) c = 0)
def SmOK (σ : Sg) (n : Nat) (g : Nat → Nat) : Prop := n ≤ 576 ∧ isSm σ n ∧ ∀ i, i < n → g i = smpS (candB σ) (sN σ) (M2 σ) i ∧ g i < 4096
def COK (σ : Sg) (x : Cx) : Prop := WF σ ∧ (cK1 x = true → RowOK (shpB σ) (M2 σ) (cN1 x) (cG1 x)) ∧ (cK2 x = true → RowOK (prodB σ) (M2 σ) (cN2 x) (cG2 x)) ∧ (cK3 x = true → RowOK (candB σ) (M2 σ) (cN3 x) (cG3 x)) ∧ (cK4 x = true → RowOK (frtS σ) (M2 σ) (cN4 x) (cG4 x)) ∧ (cK5 x = true → SmOK σ (cN5 x) (cG5 x)) ∧ (cLn x = 0 ∨ cLn x = 12001)
def clW (k : Nat → ClassId) (b : Nat → Nat) (σ : Sg) (x : Cx) : va_W :=
  [(b 0, .inr (6, [.ref (b 1), .ref (b 12), .ref (b 16), .ref (b 17), .ref (b 19), .ref (b 21), .ref (b 23), .ref (b 25), .ref (b 27), .ref (b 28)])),
   (b 1, .inr (3, [.int (nI (sN σ)), .ref (b 2), .ref (b 3), .ref (b 4), .ref (b 5), .ref (b 6), .ref (b 7)])),
   (b 2, .inl (k 0, 12, .inl (nA (sP σ)))), (b 3, .inl (k 0, 12, .inl (nA (sR σ)))), (b 4, .inl (k 0, 12, .inl (nA (sC σ)))), (b 5, .inl (k 0, 12, .inl (nA (sV σ)))), (b 6, .inl (k 0, 12, .inl (nA (offS σ)))),
   (b 7, .inl (k 2, 4, .inr (.inr (.inr (.inr (q4 (b 8) (b 9) (b 10) (b 11))))))), (b 8, .inl (k 0, 12, .inl (nA (chS σ 0)))), (b 9, .inl (k 0, 12, .inl (nA (chS σ 1)))), (b 10, .inl (k 0, 12, .inl (nA (chS σ 2)))), (b 11, .inl (k 0, 12, .inl (nA (chS σ 3)))),
   (b 12, .inr (2, [.int (nI (sK σ)), .int (nI (onS σ)), .ref (b 13), .ref (b 14), .ref (b 15)])), (b 13, .inl (k 0, 10, .inl (nA (sKd σ)))), (b 14, .inl (k 0, 10, .inl (nA (sA σ)))), (b 15, .inl (k 0, 10, .inl (nA (sB σ)))),
   (b 16, .inr (0, [.int (nI (inS σ)), .int (nI (ouS σ)), .int (sU σ)])),
   (b 17, .inr (1, [.ref (b 18), .int (nI (cN1 x)), .int (bI (cK1 x))])), (b 18, .inl (k 0, 2048, .inl (nA (cG1 x)))), (b 19, .inr (1, [.ref (b 20), .int (nI (cN2 x)), .int (bI (cK2 x))])), (b 20, .inl (k 0, 2048, .inl (nA (cG2 x)))),
   (b 21, .inr (1, [.ref (b 22), .int (nI (cN3 x)), .int (bI (cK3 x))])), (b 22, .inl (k 0, 2048, .inl (nA (cG3 x)))), (b 23, .inr (1, [.ref (b 24), .int (nI (cN4 x)), .int (bI (cK4 x))])), (b 24, .inl (k 0, 2048, .inl (nA (cG4 x)))),
   (b 25, .inr (1, [.ref (b 26), .int (nI (cN5 x)), .int (bI (cK5 x))])), (b 26, .inl (k 0, 2048, .inl (nA (cG5 x)))), (b 27, .inr (5, [.ref (cLa x)])), (cLa x, .inl (k 0, cLn x, .inl (cLf x))), (b 28, .inr (4, [.ref (b 29)])), (b 29, .inl (k 0, 24, .inl (nA (cSh x))))]
theorem onS_lt {σ : Sg} (h : WF σ) : onS σ < 1024 := maskN_lt' _ h.2.2.2.2.2.2.2.2.2.1
theorem inS_lt {σ : Sg} (h : WF σ) : inS σ < 4096 := maskN_lt' (m := 12) _ h.2.1
theorem ouS_lt {σ : Sg} (h : WF σ) : ouS σ < 4096 := maskN_lt' (m := 12) _ h.2.1
theorem chS_lt {σ : Sg} (h : WF σ) (r f : Nat) : chS σ r f < 4096 := maskN_lt' (m := 12) _ h.2.1
theorem offS_lt {σ : Sg} (h : WF σ) (f : Nat) : offS σ f < 4096 := maskN_lt' (m := 12) _ h.2.1
theorem brk_S {σ : Sg} (h : WF σ) {c : Nat} (hc : c < 2 ^ sN σ) : brkN (offS σ) (chS σ 0) (chS σ 2) (chS σ 3) (sN σ) c = treeN (sN σ) (sP σ) (sR σ) c :=
  tree_eq h.2.1 hc (fun i h1 h2 => Nat.lt_trans (h.2.2.1 i h1 h2) h2)
theorem bb_S {σ : Sg} (h : WF σ) (c : Nat) : bbN (onS σ) (sKd σ) (sA σ) (sB σ) c (sK σ) = cnN (sKd σ) (sA σ) (sB σ) (sO σ) c (sK σ) :=
  bb_cn (fun i _ => h.2.2.2.2.2.2.2.2.2.2.1 i) _ (Nat.le_refl _)
theorem fit_S {σ : Sg} (h : WF σ) (c : Nat) : allowB (inS σ) (ouS σ) (sU σ) c (sumN (sC σ) c (sN σ)) = fitB (sN σ) (sC σ) (sD σ) (sU σ) c :=
  allow_fit (fun i _ => h.2.2.2.2.2.2.2.1 i)
theorem shp_odd {σ : Sg} {c : Nat} (h : shpB σ c = true) : c.testBit 0 = true := by
  unfold shpB treeN at h
  have h1 := of_decide_eq_true h
  cases hq : c.testBit 0 with
  | true => rfl
  | false => rw [hq] at h1; simp at h1
theorem prod_shp {σ : Sg} {c : Nat} (h : prodB σ c = true) : shpB σ c = true := by
  unfold prodB at h
  rw [Bool.and_eq_true] at h
  exact h.1
theorem cand_prod {σ : Sg} {c : Nat} (h : candB σ c = true) : prodB σ c = true := by
  unfold candB at h
  rw [Bool.and_eq_true] at h
  exact h.1
theorem frt_cand {σ : Sg} {c : Nat} (h : frtS σ c = true) : candB σ c = true := by
  unfold frtS frtB at h
  rw [Bool.and_eq_true] at h
  exact h.1
/-- a row that is being filled from the front on -/
def RowTo (p : Nat → Bool) (M c sz : Nat) (g : Nat → Nat) : Prop := sz = fb_ct p c ∧ ∀ i, i < sz → g i = nthN p i M
theorem RowTo.zero (p : Nat → Bool) (M : Nat) (g : Nat → Nat) : RowTo p M 0 0 g := ⟨rfl, fun i hi => absurd hi (Nat.not_lt_zero i)⟩
theorem RowTo.no {p : Nat → Bool} {M c sz : Nat} {g : Nat → Nat} (h : RowTo p M c sz g) (hp : p c = false) : RowTo p M (c + 1) sz g := ⟨by rw [fb_ct_succ, hp, if_neg Bool.false_ne_true, Nat.add_zero]; exact h.1, h.2⟩
theorem RowTo.yes {p : Nat → Bool} {M c sz : Nat} {g : Nat → Nat} (h : RowTo p M c sz g) (hp : p c = true) (hc : c < M) : RowTo p M (c + 1) (sz + 1) (va_up g sz c) := by
  refine ⟨by rw [fb_ct_succ, hp, if_pos rfl, h.1], fun i hi => ?_⟩
  by_cases hz : i = sz
  · subst hz
    rw [nthN_eq hp h.1.symm hc]
    simp [va_up]
  · have e : va_up g sz c i = g i := by simp [va_up, hz]
    rw [e]
    exact h.2 i (by omega)
theorem RowTo.cast {p : Nat → Bool} {M c d sz : Nat} {g : Nat → Nat} (h : RowTo p M c sz g) (e : fb_ct p d = fb_ct p c) : RowTo p M d sz g := ⟨by rw [e]; exact h.1, h.2⟩
theorem RowTo.ok {p : Nat → Bool} {M sz : Nat} {g : Nat → Nat} (h : RowTo p M M sz g) (hs : fb_ct p M ≤ 2048) : RowOK p M sz g := ⟨h.1, by rw [h.1]; exact hs, h.2⟩
theorem RowTo.short {p : Nat → Bool} {M c sz : Nat} {g : Nat → Nat} (h : RowTo p M c sz g) (hc : c < M) (hp : p c = true) (hs : fb_ct p M ≤ 2048) : sz < 2048 := by
  have := fb_ct_lt hp hc
  rw [h.1]
  omega
theorem odd_S {σ : Sg} (h : WF σ) {p : Nat → Bool} (hp : ∀ c, p c = true → shpB σ c = true) : fb_ct p (M2 σ) ≤ 2048 := odd_short (fun c hc => shp_odd (hp c hc)) h.1 h.2.1
theorem not_of {p q : Nat → Bool} (h : ∀ c, p c = true → q c = true) {c : Nat} (hq : q c = false) : p c = false := by
  cases hp : p c with
  | false => rfl
  | true => rw [h c hp] at hq; exact absurd hq (by decide)
/-- counting members of a smaller set passes by what isn't in the greater one -/
theorem ct_not {p q : Nat → Bool} (h : ∀ c, p c = true → q c = true) : ∀ c, q c = false → fb_ct p (c + 1) = fb_ct p c := fun c hq => by rw [fb_ct_succ, not_of h hq, if_neg Bool.false_ne_true, Nat.add_zero]
theorem M2_even {σ : Sg} (h : WF σ) : M2 σ % 2 = 0 := by
  show 2 ^ sN σ % 2 = 0
  obtain ⟨m, hm⟩ : ∃ m, sN σ = m + 1 := ⟨sN σ - 1, by have := h.1; omega⟩
  rw [hm, Nat.pow_succ, Nat.mul_mod_left]
theorem shp_even {σ : Sg} {c : Nat} (h : c % 2 = 0) : shpB σ c = false := by
  cases hq : shpB σ c with
  | false => rfl
  | true => have h1 := shp_odd hq; rw [Nat.testBit_zero] at h1; have := of_decide_eq_true h1; omega
theorem fb_ct_no {p : Nat → Bool} {c : Nat} (h : p c = false) : fb_ct p c = fb_ct p (c + 1) := by rw [fb_ct_succ, h, if_neg Bool.false_ne_true, Nat.add_zero]
theorem tog_sym (σ : Sg) (a b : Nat) : togS σ a b = togS σ b a := by
  unfold togS
  refine allN_cong (fun c _ => ?_)
  unfold togB
  cases c.testBit a <;> cases c.testBit b <;> rfl
theorem all_no {p : Nat → Bool} {i n : Nat} (hi : i < n) (h : p i = false) : allN p n = false := by
  cases hq : allN p n with
  | false => rfl
  | true => have := allN_iff.mp hq i hi; rw [h] at this; exact absurd this (by decide)
theorem opn_S {σ : Sg} (h : WF σ) : andn (2 ^ sN σ - 1) (inS σ ||| ouS σ) = maskN (fun f => decide (sD σ f = 0)) (sN σ) := by
  refine bit_ext (fun i => ?_)
  rw [andn_bit, maskN_bit, Nat.testBit_two_pow_sub_one, Nat.testBit_or]
  unfold inS ouS decM
  rw [maskN_bit, maskN_bit]
  by_cases hi : i < sN σ
  · rw [decide_eq_true hi]
    have h3 := h.2.2.2.2.2.2.2.1 i
    have : sD σ i = 0 ∨ sD σ i = 1 ∨ sD σ i = 2 := by omega
    rcases this with h | h | h <;> rw [h] <;> rfl
  · rw [decide_eq_false hi]; rfl
