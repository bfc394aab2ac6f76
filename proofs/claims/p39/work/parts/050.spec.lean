/-! the state in numbers, and what the document asks of it -/
/-- count, parents, relations, costs, values, decisions; constraints: count, kinds, a, b, on; budget -/
abbrev Sg : Type := Nat × (Nat → Nat) × (Nat → Nat) × (Nat → Nat) × (Nat → Nat) × (Nat → Nat) × Nat × (Nat → Nat) × (Nat → Nat) × (Nat → Nat) × (Nat → Bool) × Int32
def sN (σ : Sg) : Nat := σ.1
def sP (σ : Sg) : Nat → Nat := σ.2.1
def sR (σ : Sg) : Nat → Nat := σ.2.2.1
def sC (σ : Sg) : Nat → Nat := σ.2.2.2.1
def sV (σ : Sg) : Nat → Nat := σ.2.2.2.2.1
def sD (σ : Sg) : Nat → Nat := σ.2.2.2.2.2.1
def sK (σ : Sg) : Nat := σ.2.2.2.2.2.2.1
def sKd (σ : Sg) : Nat → Nat := σ.2.2.2.2.2.2.2.1
def sA (σ : Sg) : Nat → Nat := σ.2.2.2.2.2.2.2.2.1
def sB (σ : Sg) : Nat → Nat := σ.2.2.2.2.2.2.2.2.2.1
def sO (σ : Sg) : Nat → Bool := σ.2.2.2.2.2.2.2.2.2.2.1
def sU (σ : Sg) : Int32 := σ.2.2.2.2.2.2.2.2.2.2.2
def oI : Option Nat → Int32
  | none => -1
  | some x => nI x
theorem oI_none {o : Option Nat} (h : ∀ x, o = some x → x < 2147483648) : oI o = -1 ↔ o = none := by
  cases o with
  | none => exact ⟨fun _ => rfl, fun _ => rfl⟩
  | some x =>
    refine ⟨fun q => ?_, fun q => nomatch q⟩
    have hx := h x rfl
    have h1 : (nI x).toInt = (-1 : Int32).toInt := congrArg Int32.toInt (show nI x = -1 from q)
    rw [nI_toInt (by omega)] at h1
    have h2 : (-1 : Int32).toInt = -1 := by decide
    omega
theorem oI_some {o : Option Nat} {v : Nat} (h : ∀ x, o = some x → x < 2147483648) (hv : v < 2147483648) : oI o = nI v ↔ o = some v := by
  cases o with
  | none =>
    refine ⟨fun q => ?_, fun q => nomatch q⟩
    have h1 : (-1 : Int32).toInt = (nI v).toInt := congrArg Int32.toInt (show (-1 : Int32) = nI v from q)
    rw [nI_toInt (by omega)] at h1
    have h2 : (-1 : Int32).toInt = -1 := by decide
    omega
  | some x =>
    have hx := h x rfl
    refine ⟨fun q => ?_, fun q => by rw [Option.some.inj q]; rfl⟩
    rw [(nI_eq (by omega) (by omega)).mp (show nI x = nI v from q)]
theorem mxI_o {o : Option Nat} (h : ∀ x, o = some x → x < 2147483648) : mxI (oI o) (nI 0) = nI (o.getD 0) := by
  cases o with
  | none => rfl
  | some x =>
    have hx := h x rfl
    show (if nI x < nI 0 then nI 0 else nI x) = nI x
    rw [if_neg (nI_nlt (Nat.zero_le x) (by omega))]
def maskN (p : Nat → Bool) : Nat → Nat
  | 0 => 0
  | i + 1 => if p i then maskN p i ||| 2 ^ i else maskN p i
theorem maskN_succ (p : Nat → Bool) (i : Nat) : maskN p (i + 1) = if p i then maskN p i ||| 2 ^ i else maskN p i := rfl
/-- the children of a feature with a relation in a configuration: how many, none if there are none at all -/
def chO (pa rl : Nat → Nat) (c f r : Nat) : Nat → Option Nat
  | 0 => none
  | i + 1 => if 1 ≤ i ∧ pa i = f ∧ rl i = r then some ((chO pa rl c f r i).getD 0 + (if c.testBit i then 1 else 0)) else chO pa rl c f r i
theorem chO_succ (pa rl : Nat → Nat) (c f r i : Nat) : chO pa rl c f r (i + 1) = if 1 ≤ i ∧ pa i = f ∧ rl i = r then some ((chO pa rl c f r i).getD 0 + (if c.testBit i then 1 else 0)) else chO pa rl c f r i := rfl
theorem chO_le (pa rl : Nat → Nat) (c f r : Nat) : ∀ i x, chO pa rl c f r i = some x → x ≤ i
  | 0, x, h => nomatch h
  | i + 1, x, h => by
    have ih := chO_le pa rl c f r i
    rw [chO_succ] at h
    split at h
    · have e := Option.some.inj h
      cases hq : chO pa rl c f r i with
      | none => rw [hq] at e; simp at e; split at e <;> omega
      | some y =>
        have := ih y hq
        rw [hq] at e; simp at e; split at e <;> omega
    · have := ih x h
      omega
theorem chO_lt (pa rl : Nat → Nat) (c f r : Nat) {i : Nat} (hi : i ≤ 12) : ∀ x, chO pa rl c f r i = some x → x < 2147483648 := fun x h => by
  have := chO_le pa rl c f r i x h
  omega
def tr1 (pa rl : Nat → Nat) (c : Nat) : Nat → Nat
  | 0 => 0
  | i + 1 => tr1 pa rl c i + (if 1 ≤ i then (if c.testBit i && !c.testBit (pa i) then 1 else 0) + (if decide (rl i = 0) && (c.testBit (pa i) && !c.testBit i) then 1 else 0) else 0)
theorem tr1_succ (pa rl : Nat → Nat) (c i : Nat) : tr1 pa rl c (i + 1) = tr1 pa rl c i + (if 1 ≤ i then (if c.testBit i && !c.testBit (pa i) then 1 else 0) + (if decide (rl i = 0) && (c.testBit (pa i) && !c.testBit i) then 1 else 0) else 0) := rfl
def tr2 (pa rl : Nat → Nat) (n c : Nat) : Nat → Nat
  | 0 => 0
  | i + 1 => tr2 pa rl n c i + (if c.testBit i then (if chO pa rl c i 2 n ≠ none ∧ chO pa rl c i 2 n ≠ some 1 then 1 else 0) + (if chO pa rl c i 3 n = some 0 then 1 else 0) else 0)
theorem tr2_succ (pa rl : Nat → Nat) (n c i : Nat) : tr2 pa rl n c (i + 1) = tr2 pa rl n c i + (if c.testBit i then (if chO pa rl c i 2 n ≠ none ∧ chO pa rl c i 2 n ≠ some 1 then 1 else 0) + (if chO pa rl c i 3 n = some 0 then 1 else 0) else 0) := rfl
/-- how many rules of the tree a configuration breaks -/
def treeN (n : Nat) (pa rl : Nat → Nat) (c : Nat) : Nat := (if c.testBit 0 then 0 else 1) + tr1 pa rl c n + tr2 pa rl n c n
def brB (kd fa fb : Nat → Nat) (on : Nat → Bool) (c k : Nat) : Bool := on k && (c.testBit (fa k) && (c.testBit (fb k) == decide (kd k = 1)))
/-- the set of the constraints that it breaks -/
def cnN (kd fa fb : Nat → Nat) (on : Nat → Bool) (c : Nat) : Nat → Nat := maskN (brB kd fa fb on c)
/-- decisions and budget -/
def fitF (de : Nat → Nat) (c : Nat) (b0 : Bool) : Nat → Bool
  | 0 => b0
  | i + 1 => fitF de c b0 i && (decide (de i = 0) || (c.testBit i == decide (de i = 1)))
theorem fitF_succ (de : Nat → Nat) (c : Nat) (b0 : Bool) (i : Nat) : fitF de c b0 (i + 1) = (fitF de c b0 i && (decide (de i = 0) || (c.testBit i == decide (de i = 1)))) := rfl
def fitB (n : Nat) (co de : Nat → Nat) (bud : Int32) (c : Nat) : Bool := fitF de c (decide (bud = -1) || decide (nI (sumN co c n) ≤ bud)) n
def allN (p : Nat → Bool) : Nat → Bool
  | 0 => true
  | i + 1 => allN p i && p i
theorem allN_succ (p : Nat → Bool) (i : Nat) : allN p (i + 1) = (allN p i && p i) := rfl
def togB (pr : Nat → Bool) (a b c : Nat) : Bool := !(pr c && (c.testBit a != c.testBit b))
/-- beaten by no one -/
def nbB (ca : Nat → Bool) (cs vs : Nat → Nat) (c o : Nat) : Bool := !ca o || (decide (cs o = cs c) && decide (vs o = vs c) || (decide (cs c < cs o) || decide (vs o < vs c)))
def frtB (ca : Nat → Bool) (cs vs : Nat → Nat) (c M : Nat) : Bool := ca c && allN (nbB ca cs vs c) M
def prK (c a b : Nat) : Nat := 4 * (12 * a + b) + (if c.testBit a then 2 else 0) + (if c.testBit b then 1 else 0)
def isF (x : Int32) (n : Nat) : Bool := decide (¬ x < 0) && decide (¬ nI n ≤ x)
theorem frtB_succ (ca : Nat → Bool) (cs vs : Nat → Nat) (c i : Nat) : frtB ca cs vs c (i + 1) = (frtB ca cs vs c i && nbB ca cs vs c i) := by
  unfold frtB; rw [allN_succ, Bool.and_assoc]
theorem frtB_stop {ca : Nat → Bool} {cs vs : Nat → Nat} {c i : Nat} : ∀ {M : Nat}, i ≤ M → frtB ca cs vs c i = false → frtB ca cs vs c M = false
  | 0, hi, h => by rw [show i = 0 by omega] at h; exact h
  | M + 1, hi, h => by
    rcases Nat.lt_or_ge i (M + 1) with q | q
    · rw [frtB_succ, frtB_stop (by omega) h]; rfl
    · rw [show M + 1 = i by omega]; exact h
