/-! what the methods compute, in numbers; each as its loop does it -/
def comI (g : Nat → Nat) : Nat → Int32
  | 0 => -1
  | i + 1 => comI g i &&& nI (g i)
def comN (g : Nat → Nat) : Nat → Nat
  | 0 => 4095
  | i + 1 => comN g i &&& g i
theorem m1_and (x : Int32) : (-1) &&& x = x := by
  apply Int32.toBitVec_inj.1
  show (-1 : Int32).toBitVec &&& x.toBitVec = x.toBitVec
  rw [show (-1 : Int32).toBitVec = BitVec.allOnes 32 by decide, BitVec.allOnes_and]
theorem and_4095 {x : Nat} (h : x < 4096) : 4095 &&& x = x := by
  rw [Nat.and_comm, show (4095 : Nat) = 2 ^ 12 - 1 by decide, Nat.and_two_pow_sub_one_eq_mod, Nat.mod_eq_of_lt h]
theorem comI_eq (g : Nat → Nat) (n : Nat) (h : 1 ≤ n) (hg : ∀ i, i < n → g i < 4096) : comI g n = nI (comN g n) := by
  induction n with
  | zero => omega
  | succ n ih =>
    show comI g n &&& nI (g n) = nI (comN g n &&& g n)
    rcases Nat.eq_zero_or_pos n with z | z
    · subst z
      show (-1) &&& nI (g 0) = nI (4095 &&& g 0)
      rw [m1_and, and_4095 (hg 0 (by omega))]
    · rw [ih z (fun i hi => hg i (by omega)), xI_and]
def uniN (g : Nat → Nat) : Nat → Nat
  | 0 => 0
  | i + 1 => uniN g i ||| g i
def joinB (g : Nat → Nat) (a b : Nat) : Nat → Bool
  | 0 => true
  | n + 1 => joinB g a b n && ((g n).testBit a == (g n).testBit b)
theorem joinB_succ (g : Nat → Nat) (a b n : Nat) : joinB g a b (n + 1) = (joinB g a b n && ((g n).testBit a == (g n).testBit b)) := rfl
theorem joinB_no {g : Nat → Nat} {a b i : Nat} (h : ¬ (g i).testBit a = (g i).testBit b) : ∀ {n : Nat}, i < n → joinB g a b n = false
  | 0, hi => absurd hi (Nat.not_lt_zero i)
  | n + 1, hi => by
    rw [joinB_succ]
    rcases Nat.lt_or_ge i n with q | q
    · rw [joinB_no h q]; rfl
    · have e : i = n := by omega
      subst e
      rw [beq_eq_false_iff_ne.mpr h, Bool.and_false]
def sumN (g : Nat → Nat) (c : Nat) : Nat → Nat
  | 0 => 0
  | n + 1 => sumN g c n + (if c.testBit n then g n else 0)
theorem sumN_succ (g : Nat → Nat) (c n : Nat) : sumN g c (n + 1) = sumN g c n + (if c.testBit n then g n else 0) := rfl
theorem sumN_le {g : Nat → Nat} {M : Nat} (c : Nat) : ∀ {n : Nat}, (∀ i, i < n → g i ≤ M) → sumN g c n ≤ n * M
  | 0, _ => Nat.zero_le _
  | n + 1, h => by
    have h1 := sumN_le c (n := n) (fun i hi => h i (by omega))
    have h2 := h n (by omega)
    rw [sumN_succ, Nat.succ_mul]
    split <;> omega
def q4 (c0 c1 c2 c3 : Nat) : Nat → Option Nat
  | 0 => some c0
  | 1 => some c1
  | 2 => some c2
  | 3 => some c3
  | _ => none
theorem andn_le (a e : Nat) : andn a e ≤ a := by
  apply Nat.le_of_testBit
  intro i h
  rw [andn_bit] at h
  cases ha : a.testBit i with
  | true => rfl
  | false => rw [ha] at h; simp at h
theorem andn_lt {a M : Nat} (e : Nat) (h : a < M) : andn a e < M := Nat.lt_of_le_of_lt (andn_le a e) h
theorem popN_le (m : Nat) : ∀ n, popN m n ≤ n
  | 0 => Nat.le_refl 0
  | n + 1 => by
    have h := popN_le m n
    rw [popN]
    split <;> omega
theorem popc_lt (m : Nat) : popc m < 2147483648 := by
  have h := popN_le m 32
  unfold popc
  omega
theorem popc_le (m : Nat) : popc m ≤ 32 := popN_le m 32
def belowN (m o s c : Nat) : Nat := popc (andn m c) + (if o ≠ 0 ∧ popc (o &&& c) ≠ 1 then 1 else 0) + (if s ≠ 0 ∧ s &&& c = 0 then 1 else 0)
def wpN (off : Nat → Nat) (c : Nat) : Nat → Nat
  | 0 => 1
  | i + 1 => if c.testBit i then wpN off c i ||| off i else wpN off c i
theorem wpN_succ (off : Nat → Nat) (c i : Nat) : wpN off c (i + 1) = if c.testBit i then wpN off c i ||| off i else wpN off c i := rfl
def blN (g0 g2 g3 : Nat → Nat) (c : Nat) : Nat → Nat
  | 0 => 0
  | i + 1 => blN g0 g2 g3 c i + (if c.testBit i then belowN (g0 i) (g2 i) (g3 i) c else 0)
theorem blN_succ (g0 g2 g3 : Nat → Nat) (c i : Nat) : blN g0 g2 g3 c (i + 1) = blN g0 g2 g3 c i + (if c.testBit i then belowN (g0 i) (g2 i) (g3 i) c else 0) := rfl
def brkN (off g0 g2 g3 : Nat → Nat) (n c : Nat) : Nat := (if c.testBit 0 then 0 else 1) + blN g0 g2 g3 c n + popc (andn c (wpN off c n))
def forbB (kd fa fb c : Nat) : Bool := c.testBit fa && (c.testBit fb != decide (kd = 0))
def bbN (on : Nat) (kd fa fb : Nat → Nat) (c : Nat) : Nat → Nat
  | 0 => 0
  | i + 1 => if on.testBit i && forbB (kd i) (fa i) (fb i) c then bbN on kd fa fb c i ||| 2 ^ i else bbN on kd fa fb c i
theorem bbN_succ (on : Nat) (kd fa fb : Nat → Nat) (c i : Nat) : bbN on kd fa fb c (i + 1) = if on.testBit i && forbB (kd i) (fa i) (fb i) c then bbN on kd fa fb c i ||| 2 ^ i else bbN on kd fa fb c i := rfl
def f31 (d : Int64) (x : Int32) : Int64 := d * 31 + x.toInt64
def conF (on : Nat) (kd fa fb : Nat → Nat) (d : Int64) : Nat → Int64
  | 0 => d
  | i + 1 => f31 (f31 (f31 (f31 (conF on kd fa fb d i) (nI (kd i))) (nI (fa i))) (nI (fb i))) (bI (on.testBit i))
theorem conF_succ (on : Nat) (kd fa fb : Nat → Nat) (d : Int64) (i : Nat) : conF on kd fa fb d (i + 1) = f31 (f31 (f31 (f31 (conF on kd fa fb d i) (nI (kd i))) (nI (fa i))) (nI (fb i))) (bI (on.testBit i)) := rfl
def allowB (i o : Nat) (bud : Int32) (p cost : Nat) : Bool := decide (p &&& i = i) && (decide (p &&& o = 0) && (decide (bud = -1) || decide (nI cost ≤ bud)))
def decN (i o f : Nat) : Nat := if i.testBit f then 1 else if o.testBit f then 2 else 0
def litsN (c n : Nat) : Nat := c ||| andn (2 ^ n - 1) c * 2 ^ 12
def litN (f c : Nat) : Nat := if c.testBit f then f else f + 12
def latN (c n : Nat) : Nat → Nat
  | 0 => litsN c n
  | i + 1 => andn (latN c n i) (2 ^ litN i c)
theorem latN_succ (c n i : Nat) : latN c n (i + 1) = andn (latN c n i) (2 ^ litN i c) := rfl
def frN (sh : Nat → Nat) (c n : Nat) : Nat → Nat
  | 0 => 0
  | i + 1 => frN sh c n i + popc (andn (latN c n (i + 1)) (sh (litN i c)))
theorem frN_succ (sh : Nat → Nat) (c n i : Nat) : frN sh c n (i + 1) = frN sh c n i + popc (andn (latN c n (i + 1)) (sh (litN i c))) := rfl
theorem pow12 {n : Nat} (h : n ≤ 12) : 2 ^ n ≤ 4096 := Nat.pow_le_pow_right (n := 2) (by decide) h
theorem litN_lt {f c : Nat} (h : f < 12) : litN f c < 24 := by unfold litN; split <;> omega
theorem litsN_lt {c n : Nat} (hc : c < 4096) (hn : n ≤ 12) : litsN c n < 16777216 := by
  have h1 : andn (2 ^ n - 1) c < 4096 := andn_lt c (by have := pow12 hn; have := Nat.one_le_two_pow (n := n); omega)
  have h2 : andn (2 ^ n - 1) c * 2 ^ 12 < 2 ^ 24 := by omega
  exact Nat.or_lt_two_pow (n := 24) (Nat.lt_trans hc (by decide)) h2
theorem latN_lt {c n : Nat} (hc : c < 4096) (hn : n ≤ 12) : ∀ i, latN c n i < 16777216
  | 0 => litsN_lt hc hn
  | i + 1 => andn_lt _ (latN_lt hc hn i)
def topB (f : Nat → Int32) (cost v : Nat) : Bool := decide (f cost = nI v) && (decide (cost = 0) || decide (f (cost - 1) < nI v))
def lessB (a b : Nat) : Bool := decide (popc a < popc b) || (decide (popc a = popc b) && decide (a < b))
