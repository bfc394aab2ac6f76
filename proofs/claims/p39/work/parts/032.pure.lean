/-! pure facts: bits, the JDK's bitCount, sums and rows -/
theorem w_split {a A b B : Nat} (hb : b < 256) (hB : B < 256) : (256 * a + b) &&& (256 * A + B) = 256 * (a &&& A) + (b &&& B) := by
  have hb' : b < 2 ^ 8 := hb
  have hB' : B < 2 ^ 8 := hB
  have hbB : b &&& B < 2 ^ 8 := Nat.lt_of_le_of_lt Nat.and_le_left hb'
  apply Nat.eq_of_testBit_eq
  intro i
  rw [Nat.testBit_and, show 256 = 2 ^ 8 from rfl, Nat.testBit_two_pow_mul_add a hb', Nat.testBit_two_pow_mul_add A hB', Nat.testBit_two_pow_mul_add _ hbB]
  split <;> rw [Nat.testBit_and]
def bcS (m1 m2 m3 x : Nat) : Nat :=
  ((((x - (x / 2 &&& m1)) &&& m2) + ((x - (x / 2 &&& m1)) / 4 &&& m2)) + (((x - (x / 2 &&& m1)) &&& m2) + ((x - (x / 2 &&& m1)) / 4 &&& m2)) / 16) &&& m3
theorem w_s1 : ∀ e, e < 2 → ∀ l, l < 256 → (128 * e + l / 2) &&& 0x55 = l / 2 &&& 0x55 := by decide +kernel
theorem w_s2 : ∀ e, e < 4 → ∀ l, l < 256 → (64 * e + l / 4) &&& 0x33 = l / 4 &&& 0x33 := by decide +kernel
theorem w_s3 : ∀ t, t < 7 → ∀ l, l < 256 → ((((l - (l / 2 &&& 0x55)) &&& 0x33) + ((l - (l / 2 &&& 0x55)) / 4 &&& 0x33)) + (16 * t + (((l - (l / 2 &&& 0x55)) &&& 0x33) + ((l - (l / 2 &&& 0x55)) / 4 &&& 0x33)) / 16)) < 256 ∧
  ((((l - (l / 2 &&& 0x55)) &&& 0x33) + ((l - (l / 2 &&& 0x55)) / 4 &&& 0x33)) + (16 * t + (((l - (l / 2 &&& 0x55)) &&& 0x33) + ((l - (l / 2 &&& 0x55)) / 4 &&& 0x33)) / 16)) &&& 0x0f = bcS 0x55 0x33 0x0f l := by decide +kernel
theorem w_lo : ∀ l, l < 256 → (l / 2 &&& 0x55) ≤ l ∧ l - (l / 2 &&& 0x55) < 256 ∧ ((l - (l / 2 &&& 0x55)) &&& 0x33) + ((l - (l / 2 &&& 0x55)) / 4 &&& 0x33) < 256 ∧ bcS 0x55 0x33 0x0f l = popN l 8 ∧ popN l 8 ≤ 8 := by decide +kernel
theorem w_nib {a M : Nat} (hM : M % 16 = 3) : (a &&& M) % 16 ≤ 3 := by
  have h := Nat.and_mod_two_pow (a := a) (b := M) (n := 4)
  rw [show (2 : Nat) ^ 4 = 16 from rfl, hM] at h
  rw [h]
  exact Nat.and_le_right
theorem w_step {h l m1 m2 m3 : Nat} (hl : l < 256) (h2 : m2 % 16 = 3) : bcS (256 * m1 + 0x55) (256 * m2 + 0x33) (256 * m3 + 0x0f) (256 * h + l) = 256 * bcS m1 m2 m3 h + bcS 0x55 0x33 0x0f l := by
  obtain ⟨k1, k2, k3, -⟩ := w_lo l hl
  have e1 : (256 * h + l) / 2 = 256 * (h / 2) + (128 * (h % 2) + l / 2) := by omega
  have e2 : (256 * h + l) / 2 &&& (256 * m1 + 0x55) = 256 * (h / 2 &&& m1) + (l / 2 &&& 0x55) := by
    rw [e1, w_split (by omega) (by decide), w_s1 _ (by omega) l hl]
  have kh : (h / 2 &&& m1) ≤ h / 2 := Nat.and_le_left
  have e3 : 256 * h + l - ((256 * h + l) / 2 &&& (256 * m1 + 0x55)) = 256 * (h - (h / 2 &&& m1)) + (l - (l / 2 &&& 0x55)) := by
    rw [e2]; omega
  generalize hH : h - (h / 2 &&& m1) = H1 at e3
  generalize hL : l - (l / 2 &&& 0x55) = L1 at e3 k2 k3
  have e4 : (256 * H1 + L1) &&& (256 * m2 + 0x33) = 256 * (H1 &&& m2) + (L1 &&& 0x33) := w_split k2 (by decide)
  have e5 : (256 * H1 + L1) / 4 &&& (256 * m2 + 0x33) = 256 * (H1 / 4 &&& m2) + (L1 / 4 &&& 0x33) := by
    rw [show (256 * H1 + L1) / 4 = 256 * (H1 / 4) + (64 * (H1 % 4) + L1 / 4) by omega, w_split (by omega) (by decide), w_s2 _ (by omega) L1 k2]
  have n1 : (H1 &&& m2) % 16 ≤ 3 := w_nib h2
  have n2 : (H1 / 4 &&& m2) % 16 ≤ 3 := w_nib h2
  have k4 := w_s3 (((H1 &&& m2) + (H1 / 4 &&& m2)) % 16) (by omega) l hl
  rw [hL] at k4
  unfold bcS at k4 ⊢
  rw [e3, e4, e5, hH, hL] at *
  generalize hA : (H1 &&& m2) + (H1 / 4 &&& m2) = HA at *
  generalize hB : (L1 &&& 0x33) + (L1 / 4 &&& 0x33) = LA at *
  rw [show 256 * (H1 &&& m2) + (L1 &&& 0x33) + (256 * (H1 / 4 &&& m2) + (L1 / 4 &&& 0x33)) = 256 * HA + LA by omega]
  rw [show 256 * HA + LA + (256 * HA + LA) / 16 = 256 * (HA + HA / 16) + (LA + (16 * (HA % 16) + LA / 16)) by omega]
  rw [w_split k4.1 (by decide), k4.2]
theorem w_bit (h : Nat) {l : Nat} (hl : l < 256) (i : Nat) : (256 * h + l).testBit i = if i < 8 then l.testBit i else h.testBit (i - 8) := by
  have hl' : l < 2 ^ 8 := hl
  rw [show 256 = 2 ^ 8 from rfl, Nat.testBit_two_pow_mul_add h hl']
theorem popN_succ (m n : Nat) : popN m (n + 1) = popN m n + (if m.testBit n then 1 else 0) := rfl
theorem w_pop8 (h : Nat) {l : Nat} (hl : l < 256) : ∀ i, i ≤ 8 → popN (256 * h + l) i = popN l i
  | 0, _ => rfl
  | i + 1, hi => by
    rw [popN_succ, popN_succ, w_pop8 h hl i (by omega), w_bit h hl, if_pos (show i < 8 by omega)]
theorem w_pop (h : Nat) {l : Nat} (hl : l < 256) : ∀ i, popN (256 * h + l) (8 + i) = popN l 8 + popN h i
  | 0 => by rw [w_pop8 h hl 8 (Nat.le_refl _)]; rfl
  | i + 1 => by
    rw [show 8 + (i + 1) = (8 + i) + 1 by omega, popN_succ (256 * h + l), w_pop h hl i, w_bit h hl, if_neg (show ¬ 8 + i < 8 by omega), popN_succ h, show 8 + i - 8 = i by omega]
    omega
/-- the steps that add the bytes -/
theorem w_end {p0 p1 p2 p3 w : Nat} (h0 : p0 ≤ 8) (h1 : p1 ≤ 8) (h2 : p2 ≤ 8) (h3 : p3 ≤ 8) (hw : w = 256 * (256 * (256 * p3 + p2) + p1) + p0) : (w + w / 256 + (w + w / 256) / 65536) % 64 = p0 + p1 + p2 + p3 ∧ w + w / 256 < 4294967296 := by
  have e1 : w / 256 = 256 * (256 * p3 + p2) + p1 := by omega
  have e2 : (w + w / 256) / 65536 = 256 * p3 + (p2 + p3) := by omega
  omega
theorem bc_nat {x : Nat} (hx : x < 4294967296) : bcS 0x55555555 0x33333333 0x0f0f0f0f x < 4294967296 ∧
    (bcS 0x55555555 0x33333333 0x0f0f0f0f x + bcS 0x55555555 0x33333333 0x0f0f0f0f x / 256 + (bcS 0x55555555 0x33333333 0x0f0f0f0f x + bcS 0x55555555 0x33333333 0x0f0f0f0f x / 256) / 65536) % 64 = popc x ∧
    bcS 0x55555555 0x33333333 0x0f0f0f0f x + bcS 0x55555555 0x33333333 0x0f0f0f0f x / 256 < 4294967296 := by
  have e0 : x = 256 * (256 * (256 * (x / 16777216) + x / 65536 % 256) + x / 256 % 256) + x % 256 := by omega
  have hb : bcS 0x55555555 0x33333333 0x0f0f0f0f x = 256 * (256 * (256 * popN (x / 16777216) 8 + popN (x / 65536 % 256) 8) + popN (x / 256 % 256) 8) + popN (x % 256) 8 := by
    conv => lhs; rw [e0]
    rw [show 0x55555555 = 256 * 0x555555 + 0x55 from rfl, show 0x33333333 = 256 * 0x333333 + 0x33 from rfl, show 0x0f0f0f0f = 256 * 0x0f0f0f + 0x0f from rfl, w_step (by omega) rfl]
    rw [show 0x555555 = 256 * 0x5555 + 0x55 from rfl, show 0x333333 = 256 * 0x3333 + 0x33 from rfl, show 0x0f0f0f = 256 * 0x0f0f + 0x0f from rfl, w_step (by omega) rfl]
    rw [show 0x5555 = 256 * 0x55 + 0x55 from rfl, show 0x3333 = 256 * 0x33 + 0x33 from rfl, show 0x0f0f = 256 * 0x0f + 0x0f from rfl, w_step (by omega) rfl]
    rw [(w_lo _ (show x / 16777216 < 256 by omega)).2.2.2.1, (w_lo _ (show x / 65536 % 256 < 256 by omega)).2.2.2.1, (w_lo _ (show x / 256 % 256 < 256 by omega)).2.2.2.1, (w_lo _ (show x % 256 < 256 by omega)).2.2.2.1]
  have hp : popc x = popN (x % 256) 8 + popN (x / 256 % 256) 8 + popN (x / 65536 % 256) 8 + popN (x / 16777216) 8 := by
    unfold popc
    conv => lhs; rw [e0]
    rw [show 32 = 8 + 24 from rfl, w_pop _ (by omega), show 24 = 8 + 16 from rfl, w_pop _ (by omega), show 16 = 8 + 8 from rfl, w_pop _ (by omega)]
    omega
  have q0 := (w_lo _ (show x / 16777216 < 256 by omega)).2.2.2.2
  have q1 := (w_lo _ (show x / 65536 % 256 < 256 by omega)).2.2.2.2
  have q2 := (w_lo _ (show x / 256 % 256 < 256 by omega)).2.2.2.2
  have q3 := (w_lo _ (show x % 256 < 256 by omega)).2.2.2.2
  have z := w_end q3 q2 q1 q0 hb
  rw [hp]
  exact ⟨by omega, z.1, z.2⟩
theorem xI_u : ∀ n, n < 32 → (((nI n).toUInt32 &&& Int32.toUInt32 31).toBitVec % 32).toNat = n := by decide +kernel
theorem xI_ushr {a : Nat} (n : Nat) (hn : n < 32) (ha : a < 4294967296) : ((nI a).toUInt32 >>> ((nI n).toUInt32 &&& Int32.toUInt32 31)).toInt32 = nI (a / 2 ^ n) := pk_ushrN ha (nI n) n (xI_u n hn)
theorem bc_ok {x : Nat} (hx : x < 4294967296) {y1 y2 y3 y4 y5 : Int32} (e1 : y1 = nI x - (((nI x).toUInt32 >>> ((nI 1).toUInt32 &&& Int32.toUInt32 31)).toInt32 &&& 1431655765))
    (e2 : y2 = (y1 &&& 858993459) + ((y1.toUInt32 >>> ((nI 2).toUInt32 &&& Int32.toUInt32 31)).toInt32 &&& 858993459)) (e3 : y3 = (y2 + (y2.toUInt32 >>> ((nI 4).toUInt32 &&& Int32.toUInt32 31)).toInt32) &&& 252645135)
    (e4 : y4 = y3 + (y3.toUInt32 >>> ((nI 8).toUInt32 &&& Int32.toUInt32 31)).toInt32) (e5 : y5 = y4 + (y4.toUInt32 >>> ((nI 16).toUInt32 &&& Int32.toUInt32 31)).toInt32) : y5 &&& nI 63 = nI (popc x) := by
  obtain ⟨k1, k2, k3⟩ := bc_nat hx
  have hle : (x / 2 &&& 1431655765) ≤ x / 2 := Nat.and_le_left
  rw [xI_ushr 1 (by decide) hx, show (1431655765 : Int32) = nI 1431655765 from rfl, xI_and, show x / 2 ^ 1 = x / 2 from rfl, pk_sub (by omega)] at e1
  generalize ha : x - (x / 2 &&& 1431655765) = a1 at e1
  have h1 : a1 < 4294967296 := by omega
  subst e1
  have l1 : (a1 &&& 858993459) ≤ 858993459 := Nat.and_le_right
  have l2 : (a1 / 4 &&& 858993459) ≤ 858993459 := Nat.and_le_right
  rw [xI_ushr 2 (by decide) h1, show (858993459 : Int32) = nI 858993459 from rfl, xI_and, xI_and, nI_add, show a1 / 2 ^ 2 = a1 / 4 from rfl] at e2
  generalize hb : (a1 &&& 858993459) + (a1 / 4 &&& 858993459) = a2 at e2
  have h2 : a2 < 4294967296 := by omega
  subst e2
  rw [xI_ushr 4 (by decide) h2, show (252645135 : Int32) = nI 252645135 from rfl, nI_add, xI_and, show a2 / 2 ^ 4 = a2 / 16 from rfl] at e3
  have hS : (a2 + a2 / 16) &&& 252645135 = bcS 0x55555555 0x33333333 0x0f0f0f0f x := by
    rw [← hb, ← ha]; rfl
  rw [hS] at e3
  generalize bcS 0x55555555 0x33333333 0x0f0f0f0f x = w at *
  subst e3
  rw [xI_ushr 8 (by decide) k1, nI_add, show w / 2 ^ 8 = w / 256 from rfl] at e4
  subst e4
  rw [xI_ushr 16 (by decide) k3, nI_add, show (w + w / 256) / 2 ^ 16 = (w + w / 256) / 65536 from rfl] at e5
  rw [e5, xI_and, show (63 : Nat) = 2 ^ 6 - 1 from rfl, Nat.and_two_pow_sub_one_eq_mod]
  rw [show (2 : Nat) ^ 6 = 64 from rfl, k2]
