/-! the share's Jvm.FP.Core.quotient is a number -/
theorem enc_fin (s : Bool) (c : Nat) (q : Int) (hc : c < 9007199254740992) (hq : q ≤ 971) : Jvm.FP.Core.encode Jvm.FP.Core.b64 (.fin s c q) % 9223372036854775808 ≤ 9218868437227405312 := by
  show (if c < 4503599627370496 then Jvm.FP.Core.assemble Jvm.FP.Core.b64 s 0 c else Jvm.FP.Core.assemble Jvm.FP.Core.b64 s ((q - (-1074)).toNat + 1) (c - 4503599627370496)) % 9223372036854775808 ≤ 9218868437227405312
  have hs : s.toNat ≤ 1 := by cases s <;> decide
  split
  · show ((s.toNat * 2048 + 0) * 4503599627370496 + c) % 9223372036854775808 ≤ 9218868437227405312
    omega
  · show ((s.toNat * 2048 + ((q - (-1074)).toNat + 1)) * 4503599627370496 + (c - 4503599627370496)) % 9223372036854775808 ≤ 9218868437227405312
    have h1 : (q - (-1074)).toNat ≤ 2045 := by omega
    generalize (q - (-1074)).toNat = e at h1
    omega
theorem enc_inf (s : Bool) : Jvm.FP.Core.encode Jvm.FP.Core.b64 (.inf s) % 9223372036854775808 ≤ 9218868437227405312 := by cases s <;> decide
theorem enc_round (s : Bool) (c d : Nat) (e : Int) : Jvm.FP.Core.encode Jvm.FP.Core.b64 (Jvm.FP.Core.roundRatio Jvm.FP.Core.b64 s c d e) % 9223372036854775808 ≤ 9218868437227405312 := by
  have hb : ∀ (c : Nat) (q : Int), c < 9007199254740992 → Jvm.FP.Core.encode Jvm.FP.Core.b64 (Jvm.FP.Core.bound Jvm.FP.Core.b64 s c q) % 9223372036854775808 ≤ 9218868437227405312 := fun c q hc => by
    unfold Jvm.FP.Core.bound
    split
    · rename_i h
      exact enc_fin s c q hc h
    · exact enc_inf s
  unfold Jvm.FP.Core.roundRatio
  split
  · exact enc_fin s 0 _ (by decide) (by decide)
  · unfold Jvm.FP.Core.roundAt Jvm.FP.Core.settle
    split
    · rename_i h
      exact hb _ _ h
    · exact hb _ _ (by decide)
/-- a small whole number as a double -/
def isfB (n : Nat) : Bool := match Jvm.FP.Core.decode Jvm.FP.Core.b64 (Jvm.FP.i2d (nI n)).toNat with
  | .fin _ c _ => decide (n = 0) || decide (c ≠ 0)
  | _ => false
def rngB : Nat → Nat → Bool
  | 0, s => isfB s
  | k + 1, s => rngB k s && rngB k (s + 2 ^ k)
theorem rngB_at : ∀ {k s : Nat}, rngB k s = true → ∀ i, s ≤ i → i < s + 2 ^ k → isfB i = true
  | 0, s, h, i, h1, h2 => by rw [show i = s by omega]; exact h
  | k + 1, s, h, i, h1, h2 => by
    have h3 : (rngB k s && rngB k (s + 2 ^ k)) = true := h
    rw [Bool.and_eq_true] at h3
    rcases Nat.lt_or_ge i (s + 2 ^ k) with q | q
    · exact rngB_at h3.1 i h1 q
    · exact rngB_at h3.2 i q (by rw [Nat.pow_succ] at h2; omega)
theorem isfB_all : rngB 12 0 = true := by decide +kernel
theorem isfB_4096 : isfB 4096 = true := by decide +kernel
theorem allN_at {p : Nat → Bool} : ∀ {n : Nat}, allN p n = true → ∀ i, i < n → p i = true
  | 0, _, i, hi => absurd hi (Nat.not_lt_zero i)
  | n + 1, h, i, hi => by
    rw [allN_succ, Bool.and_eq_true] at h
    rcases Nat.lt_or_ge i n with q | q
    · exact allN_at h.1 i q
    · rw [show i = n by omega]; exact h.2
theorem isf_at {n : Nat} (h : n ≤ 4096) : ∃ s c q, Jvm.FP.Core.decode Jvm.FP.Core.b64 (Jvm.FP.i2d (nI n)).toNat = .fin s c q ∧ (n = 0 ∨ c ≠ 0) := by
  have h1 : isfB n = true := by
    rcases Nat.lt_or_ge n 4096 with z | z
    · exact rngB_at isfB_all n (Nat.zero_le n) (by omega)
    · rw [show n = 4096 by omega]; exact isfB_4096
  unfold isfB at h1
  split at h1
  · rename_i s c q hq
    refine ⟨s, c, q, hq, ?_⟩
    simpa using h1
  · exact absurd h1 (by decide)
theorem n64_div {a b : Nat} (ha : a ≤ 4096) (hb : b ≤ 4096) (hb0 : b ≠ 0) : vf_n64 (FP.ddiv (FP.i2d (nI a)) (FP.i2d (nI b))) := by
  obtain ⟨s, c, q, h1, -⟩ := isf_at ha
  obtain ⟨t, d, r, h2, h3⟩ := isf_at hb
  have hd : d ≠ 0 := h3.resolve_left hb0
  have e : FP.ddiv (FP.i2d (nI a)) (FP.i2d (nI b)) = UInt64.ofNat (Jvm.FP.Core.encode Jvm.FP.Core.b64 (Jvm.FP.Core.roundRatio Jvm.FP.Core.b64 (s != t) c d (q - r))) := by
    show UInt64.ofNat (Jvm.FP.Core.encode Jvm.FP.Core.b64 (Jvm.FP.Core.quotient Jvm.FP.Core.b64 (Jvm.FP.Core.decode Jvm.FP.Core.b64 (FP.i2d (nI a)).toNat) (Jvm.FP.Core.decode Jvm.FP.Core.b64 (FP.i2d (nI b)).toNat))) = _
    rw [h1, h2]
    show UInt64.ofNat (Jvm.FP.Core.encode Jvm.FP.Core.b64 (if d = 0 then _ else _)) = _
    rw [if_neg hd]
  rw [e]
  have h := enc_round (s != t) c d (q - r)
  generalize Jvm.FP.Core.encode Jvm.FP.Core.b64 (Jvm.FP.Core.roundRatio Jvm.FP.Core.b64 (s != t) c d (q - r)) = X at h
  unfold vf_n64
  rw [UInt64.le_iff_toNat_le, UInt64.toNat_and]
  show X % 2 ^ 64 &&& (2 ^ 63 - 1) ≤ 9218868437227405312
  rw [Nat.and_two_pow_sub_one_eq_mod]
  omega
