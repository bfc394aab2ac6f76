/-! the state's steps, what each call answers (e: the code of the exception, 0 for none), the reference's world -/
def prodB (σ : Sg) (c : Nat) : Bool := decide (treeN (sN σ) (sP σ) (sR σ) c = 0) && decide (cnN (sKd σ) (sA σ) (sB σ) (sO σ) c (sK σ) = 0)
def candB (σ : Sg) (c : Nat) : Bool := prodB σ c && fitB (sN σ) (sC σ) (sD σ) (sU σ) c
def addS (σ : Sg) (p r : Nat) : Sg := (sN σ + 1, va_up (sP σ) (sN σ) p, va_up (sR σ) (sN σ) r, sC σ, sV σ, sD σ, sK σ, sKd σ, sA σ, sB σ, sO σ, sU σ)
def relS (σ : Sg) (f r : Nat) : Sg := (sN σ, sP σ, va_up (sR σ) f r, sC σ, sV σ, sD σ, sK σ, sKd σ, sA σ, sB σ, sO σ, sU σ)
def worS (σ : Sg) (f x y : Nat) : Sg := (sN σ, sP σ, sR σ, va_up (sC σ) f x, va_up (sV σ) f y, sD σ, sK σ, sKd σ, sA σ, sB σ, sO σ, sU σ)
def conS (σ : Sg) (j a b : Nat) : Sg := (sN σ, sP σ, sR σ, sC σ, sV σ, sD σ, sK σ + 1, va_up (sKd σ) (sK σ) j, va_up (sA σ) (sK σ) a, va_up (sB σ) (sK σ) b, va_up (sO σ) (sK σ) true, sU σ)
def trnS (σ : Sg) (i : Nat) (b : Bool) : Sg := (sN σ, sP σ, sR σ, sC σ, sV σ, sD σ, sK σ, sKd σ, sA σ, sB σ, va_up (sO σ) i b, sU σ)
def drpS (σ : Sg) : Sg := (sN σ, sP σ, sR σ, sC σ, sV σ, sD σ, sK σ - 1, sKd σ, sA σ, sB σ, sO σ, sU σ)
def decS (σ : Sg) (f d : Nat) : Sg := (sN σ, sP σ, sR σ, sC σ, sV σ, va_up (sD σ) f d, sK σ, sKd σ, sA σ, sB σ, sO σ, sU σ)
def reoS (σ : Sg) : Sg := (sN σ, sP σ, sR σ, sC σ, sV σ, (fun _ => 0), sK σ, sKd σ, sA σ, sB σ, sO σ, sU σ)
def budS (σ : Sg) (b : Int32) : Sg := (sN σ, sP σ, sR σ, sC σ, sV σ, sD σ, sK σ, sKd σ, sA σ, sB σ, sO σ, b)
def tn (x : Int32) : Nat := x.toNatClampNeg
theorem tn_nI {n : Nat} (h : n < 2147483648) : tn (nI n) = n := nI_clamp h
/-- codes -/
def e_if (b : Bool) : Nat := if b = true then 0 else 1
def e_add (σ : Sg) (p r : Int32) : Nat := if isF p (sN σ) = true then (if isF r 4 = true then (if sN σ = 12 then 3 else 0) else 2) else 1
def e_rel (σ : Sg) (f r : Int32) : Nat := if isF f (sN σ) = true ∧ f ≠ 0 then (if isF r 4 = true then 0 else 2) else 1
def e_wor (σ : Sg) (f x y : Int32) : Nat := if isF f (sN σ) = true then (if isF x 1001 = true ∧ isF y 1001 = true then 0 else 2) else 1
def e_con (σ : Sg) (j a b : Int32) : Nat := if isF j 2 = true then (if isF a (sN σ) = true ∧ isF b (sN σ) = true then (if sK σ = 10 then 3 else 0) else 2) else 1
def e_trn (σ : Sg) (i : Int32) : Nat := e_if (isF i (sK σ))
def e_drp (σ : Sg) : Nat := if sK σ = 0 then 1 else 0
def e_dec (σ : Sg) (f d : Int32) : Nat := if isF f (sN σ) = true then (if isF d 3 = true then 0 else 2) else 1
def e_bud (b : Int32) : Nat := if b < -1 ∨ 20000 < b then 1 else 0
def e_cfg (σ : Sg) (c : Int32) : Nat := e_if (isF c (2 ^ sN σ))
def e_fea (σ : Sg) (f : Int32) : Nat := e_if (isF f (sN σ))
def e_two (σ : Sg) (a b : Int32) : Nat := e_if (isF a (sN σ) && isF b (sN σ))
def s_add (σ : Sg) (p r : Int32) : Sg := if e_add σ p r = 0 then addS σ (tn p) (tn r) else σ
def s_rel (σ : Sg) (f r : Int32) : Sg := if e_rel σ f r = 0 then relS σ (tn f) (tn r) else σ
def s_wor (σ : Sg) (f x y : Int32) : Sg := if e_wor σ f x y = 0 then worS σ (tn f) (tn x) (tn y) else σ
def s_con (σ : Sg) (j a b : Int32) : Sg := if e_con σ j a b = 0 then conS σ (tn j) (tn a) (tn b) else σ
def s_trn (σ : Sg) (i : Int32) (b : Bool) : Sg := if e_trn σ i = 0 then trnS σ (tn i) b else σ
def s_drp (σ : Sg) : Sg := if e_drp σ = 0 then drpS σ else σ
def s_dec (σ : Sg) (f d : Int32) : Sg := if e_dec σ f d = 0 then decS σ (tn f) (tn d) else σ
def s_bud (σ : Sg) (b : Int32) : Sg := if e_bud b = 0 then budS σ b else σ
/-- the number of a set's member -/
def nthN (p : Nat → Bool) (i : Nat) : Nat → Nat
  | 0 => 0
  | M + 1 => if p M = true ∧ fb_ct p M = i then M else nthN p i M
def M2 (σ : Sg) : Nat := 2 ^ sN σ
def cntP (σ : Sg) : Nat := fb_ct (prodB σ) (M2 σ)
def cntC (σ : Sg) : Nat := fb_ct (candB σ) (M2 σ)
def cwP (σ : Sg) (f : Nat) : Nat := fb_ct (fun c => prodB σ c && c.testBit f) (M2 σ)
def cwC (σ : Sg) (f : Nat) : Nat := fb_ct (fun c => candB σ c && c.testBit f) (M2 σ)
def togS (σ : Sg) (a b : Nat) : Bool := allN (togB (prodB σ) a b) (M2 σ)
def r_dead (σ : Sg) (f : Nat) : Bool := decide (cwP σ f = 0)
def r_core (σ : Sg) (f : Nat) : Bool := decide (0 < cntP σ) && decide (cwP σ f = cntP σ)
def r_ffr (σ : Sg) (f : Nat) : Bool := decide (f ≠ 0) && (decide (sR σ f = 1) && (decide (0 < cwP σ (sP σ f)) && decide (cwP σ f = cwP σ (sP σ f))))
def r_bun (σ : Sg) : Nat := fb_ct (fun f => allN (fun o => !togS σ f o) f) (sN σ)
def blO (σ : Sg) (f : Nat) : Nat → Option Nat
  | 0 => none
  | c + 1 => if c.testBit f = true ∧ treeN (sN σ) (sP σ) (sR σ) c = 0 then
      (match blO σ f c with
        | none => some (cnN (sKd σ) (sA σ) (sB σ) (sO σ) c (sK σ))
        | some b => if lessB (cnN (sKd σ) (sA σ) (sB σ) (sO σ) c (sK σ)) b = true then some (cnN (sKd σ) (sA σ) (sB σ) (sO σ) c (sK σ)) else some b)
    else blO σ f c
def opnS (σ : Sg) (many : Nat) : Nat := maskN (fun f => decide (sD σ f = 0) && decide (cwC σ f = many)) (sN σ)
def r_for (σ : Sg) : Nat := if cntC σ = 0 then 0 else opnS σ (cntC σ)
def r_rul (σ : Sg) : Nat := if cntC σ = 0 then 0 else opnS σ 0
def r_sha (σ : Sg) (f : Nat) : UInt64 := if cntC σ = 0 then 0 else FP.ddiv (FP.i2d (nI (cwC σ f))) (FP.i2d (nI (cntC σ)))
def dfN (w all : Nat) : Nat := if all ≤ 2 * w then 2 * w - all else all - 2 * w
def quP (σ : Sg) : Nat → Option Nat × Nat
  | 0 => (none, 0)
  | f + 1 => if cwC σ f = 0 ∨ cwC σ f = cntC σ ∨ ((quP σ f).1 ≠ none ∧ (quP σ f).2 ≤ dfN (cwC σ f) (cntC σ)) then quP σ f else (some f, dfN (cwC σ f) (cntC σ))
/-- the first of the least: better x y, x is to be had before y -/
def fstO (p : Nat → Bool) (better : Nat → Nat → Bool) : Nat → Option Nat
  | 0 => none
  | c + 1 => if p c = true then (match fstO p better c with
      | none => some c
      | some b => if better c b = true then some c else some b) else fstO p better c
def csS (σ : Sg) (c : Nat) : Nat := sumN (sC σ) c (sN σ)
def vsS (σ : Sg) (c : Nat) : Nat := sumN (sV σ) c (sN σ)
def r_che (σ : Sg) : Option Nat := fstO (candB σ) (fun c b => decide (csS σ c < csS σ b)) (M2 σ)
def r_bes (σ : Sg) : Option Nat := fstO (candB σ) (fun c b => decide (vsS σ b < vsS σ c) || (decide (vsS σ c = vsS σ b) && decide (csS σ c < csS σ b))) (M2 σ)
def frtS (σ : Sg) (c : Nat) : Bool := frtB (candB σ) (csS σ) (vsS σ) c (M2 σ)
def cntF (σ : Sg) : Nat := fb_ct (frtS σ) (M2 σ)
def r_nea (σ : Sg) (x : Nat) : Option Nat := fstO (candB σ) (fun c b => decide (popc (c ^^^ x) < popc (b ^^^ x))) (M2 σ)
def anyN (p : Nat → Bool) : Nat → Bool
  | 0 => false
  | i + 1 => anyN p i || p i
def pshB (n c j : Nat) : Bool := anyN (fun a => anyN (fun b => decide (a < b) && decide (prK c a b = j)) n) n
def posB (ca : Nat → Bool) (n M j : Nat) : Bool := anyN (fun c => ca c && pshB n c j) M
def shN (mi : Nat → Bool) (n c : Nat) : Nat := fb_sm (fun a => fb_ct (fun b => decide (a < b) && mi (prK c a b)) n) n
def bstP (ca mi : Nat → Bool) (n : Nat) : Nat → Option Nat × Nat
  | 0 => (none, 0)
  | c + 1 => if (if ca c = true then shN mi n c else 0) ≤ (bstP ca mi n c).2 then bstP ca mi n c else (some c, if ca c = true then shN mi n c else 0)
def misS (ca : Nat → Bool) (n M : Nat) : Nat → Nat → Bool
  | 0 => posB ca n M
  | j + 1 => fun q => misS ca n M j q && !pshB n ((bstP ca (misS ca n M j) n M).1.getD 0) q
def smpS (ca : Nat → Bool) (n M j : Nat) : Nat := (bstP ca (misS ca n M j) n M).1.getD 0
def lefS (ca : Nat → Bool) (n M : Nat) : Nat → Nat
  | 0 => fb_ct (posB ca n M) 576
  | j + 1 => lefS ca n M j - shN (misS ca n M j) n (smpS ca n M j)
def isSm (σ : Sg) (j : Nat) : Prop := lefS (candB σ) (sN σ) (M2 σ) j = 0 ∧ ∀ i, i < j → 0 < lefS (candB σ) (sN σ) (M2 σ) i
theorem isSm_one {σ : Sg} {i j : Nat} (hi : isSm σ i) (hj : isSm σ j) : i = j := by
  rcases Nat.lt_trichotomy i j with h | h | h
  · have := hj.2 i h; have := hi.1; omega
  · exact h
  · have := hi.2 j h; have := hj.1; omega
noncomputable def smC (σ : Sg) : Nat := Classical.epsilon (fun j => isSm σ j)
theorem smC_eq {σ : Sg} {j : Nat} (h : isSm σ j) : smC σ = j := isSm_one (Classical.epsilon_spec (p := fun j => isSm σ j) ⟨j, h⟩) h
def posC (σ : Sg) : Nat := fb_ct (posB (candB σ) (sN σ) (M2 σ)) 576
def dgF (σ : Sg) (d : Int64) : Nat → Int64
  | 0 => d
  | i + 1 => if 1 ≤ i then f31 (f31 (dgF σ d i) (nI (sP σ i))) (nI (sR σ i)) else dgF σ d i
def dgW (σ : Sg) (d : Int64) : Nat → Int64
  | 0 => d
  | i + 1 => f31 (f31 (f31 (dgW σ d i) (nI (sC σ i))) (nI (sV σ i))) (nI (sD σ i))
def dgC (σ : Sg) (d : Int64) : Nat → Int64
  | 0 => d
  | i + 1 => f31 (f31 (f31 (f31 (dgC σ d i) (nI (sKd σ i))) (nI (sA σ i))) (nI (sB σ i))) (bI (sO σ i))
def dgM (ca : Nat → Bool) (d : Int64) : Nat → Int64
  | 0 => d
  | c + 1 => if ca c = true then f31 (dgM ca d c) (nI c) else dgM ca d c
def r_dig (σ : Sg) : Int64 := dgM (candB σ) (f31 (f31 (f31 (dgC σ (f31 (dgW σ (dgF σ (f31 139 (nI (sN σ))) (sN σ)) (sN σ)) (nI (sK σ))) (sK σ)) (sU σ)) (nI (cntP σ))) (nI (cntC σ))) (M2 σ)
/-- what every state keeps -/
def WF (σ : Sg) : Prop := 1 ≤ sN σ ∧ sN σ ≤ 12 ∧ (∀ i, 1 ≤ i → i < sN σ → sP σ i < i) ∧ (∀ i, sP σ i < 12) ∧ (∀ i, sR σ i < 4) ∧ (∀ i, sC σ i ≤ 1000) ∧ (∀ i, sV σ i ≤ 1000) ∧ (∀ i, sD σ i < 3) ∧ (∀ i, sN σ ≤ i → sD σ i = 0) ∧ sK σ ≤ 10 ∧ (∀ i, sKd σ i < 2) ∧ (∀ i, sA σ i < 12) ∧ (∀ i, sB σ i < 12)
theorem isF_ok {x : Int32} {n : Nat} (hn : n < 2147483648) (h : isF x n = true) : ∃ f : Nat, f < n ∧ x = nI f := by
  simp only [isF, Bool.and_eq_true, decide_eq_true_eq] at h
  rcases pk_ix x (n := n) hn with q | q | q
  · exact absurd q h.1
  · exact absurd q h.2
  · exact q
theorem isF_nI {f n : Nat} (hn : n < 2147483648) (hf : f < 2147483648) : isF (nI f) n = decide (f < n) := by
  unfold isF
  rw [show decide (¬ nI f < 0) = true from decide_eq_true (nI_pos hf), Bool.true_and]
  by_cases h : f < n
  · rw [decide_eq_true h]; exact decide_eq_true (nI_ge h hn)
  · rw [decide_eq_false h]; exact decide_eq_false (fun z => z (nI_le (Nat.le_of_not_lt h) (by omega)))
/-- the reference's numbers: thrown, known, products, candidates, costs, values, sampled, possible, samples, sample, missing -/
abbrev Mx : Type := Nat × Bool × (Nat → Bool) × (Nat → Bool) × (Nat → Nat) × (Nat → Nat) × Bool × Nat × Nat × (Nat → Nat) × (Nat → Bool)
def mT (x : Mx) : Nat := x.1
def mKn (x : Mx) : Bool := x.2.1
def mPr (x : Mx) : Nat → Bool := x.2.2.1
def mCa (x : Mx) : Nat → Bool := x.2.2.2.1
def mCs (x : Mx) : Nat → Nat := x.2.2.2.2.1
def mVs (x : Mx) : Nat → Nat := x.2.2.2.2.2.1
def mSa (x : Mx) : Bool := x.2.2.2.2.2.2.1
def mPo (x : Mx) : Nat := x.2.2.2.2.2.2.2.1
def mSm (x : Mx) : Nat := x.2.2.2.2.2.2.2.2.1
def mSp (x : Mx) : Nat → Nat := x.2.2.2.2.2.2.2.2.2.1
def mMi (x : Mx) : Nat → Bool := x.2.2.2.2.2.2.2.2.2.2
def KnOK (σ : Sg) (pr ca : Nat → Bool) (cs vs : Nat → Nat) : Prop := ∀ c, c < 2 ^ sN σ → pr c = prodB σ c ∧ ca c = candB σ c ∧ cs c = csS σ c ∧ vs c = vsS σ c
def SaOK (σ : Sg) (po sm : Nat) (sp : Nat → Nat) : Prop := po = posC σ ∧ sm ≤ 576 ∧ isSm σ sm ∧ ∀ j, j < sm → sp j = smpS (candB σ) (sN σ) (M2 σ) j ∧ sp j < 4096
def MOK (σ : Sg) (x : Mx) : Prop := WF σ ∧ (mKn x = true → KnOK σ (mPr x) (mCa x) (mCs x) (mVs x)) ∧ (mSa x = true → SaOK σ (mPo x) (mSm x) (mSp x))
def moW (k : Nat → ClassId) (a : Nat → Nat) (σ : Sg) (x : Mx) : va_W :=
  [(a 0, .inr (7, [.int (nI (mT x)), .int (nI (sN σ)), .ref (a 1), .ref (a 2), .ref (a 3), .ref (a 4), .ref (a 5), .int (nI (sK σ)), .ref (a 6), .ref (a 7), .ref (a 8), .ref (a 9), .int (sU σ), .int (bI (mKn x)), .ref (a 10), .ref (a 11), .ref (a 12), .ref (a 13), .int (bI (mSa x)), .int (nI (mPo x)), .int (nI (mSm x)), .ref (a 14), .ref (a 15)])),
   (a 1, .inl (k 0, 12, .inl (nA (sP σ)))), (a 2, .inl (k 0, 12, .inl (nA (sR σ)))), (a 3, .inl (k 0, 12, .inl (nA (sC σ)))), (a 4, .inl (k 0, 12, .inl (nA (sV σ)))), (a 5, .inl (k 0, 12, .inl (nA (sD σ)))),
   (a 6, .inl (k 0, 10, .inl (nA (sKd σ)))), (a 7, .inl (k 0, 10, .inl (nA (sA σ)))), (a 8, .inl (k 0, 10, .inl (nA (sB σ)))), (a 9, .inl (k 1, 10, .inl (bA (sO σ)))),
   (a 10, .inl (k 1, 4096, .inl (bA (mPr x)))), (a 11, .inl (k 1, 4096, .inl (bA (mCa x)))), (a 12, .inl (k 0, 4096, .inl (nA (mCs x)))), (a 13, .inl (k 0, 4096, .inl (nA (mVs x)))), (a 14, .inl (k 0, 576, .inl (nA (mSp x)))), (a 15, .inl (k 1, 576, .inl (bA (mMi x))))]
