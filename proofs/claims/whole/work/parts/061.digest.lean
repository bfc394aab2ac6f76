theorem dgF_succ {σ : Sg} {d : Int64} {i : Nat} (h : 1 ≤ i) : dgF σ d (i + 1) = f31 (f31 (dgF σ d i) (nI (sP σ i))) (nI (sR σ i)) := if_pos h
theorem dgC_t {σ : Sg} {d : Int64} {i : Nat} (h : sO σ i = true) : ((((dgC σ d i * 31 + (nI (sKd σ i)).toInt64) * 31 + (nI (sA σ i)).toInt64) * 31 + (nI (sB σ i)).toInt64) * 31 + 1) = dgC σ d (i + 1) := by
  show _ = f31 _ (bI (sO σ i))
  rw [h]; rfl
theorem dgC_f {σ : Sg} {d : Int64} {i : Nat} (h : sO σ i = false) : ((((dgC σ d i * 31 + (nI (sKd σ i)).toInt64) * 31 + (nI (sA σ i)).toInt64) * 31 + (nI (sB σ i)).toInt64) * 31 + 0) = dgC σ d (i + 1) := by
  show _ = f31 _ (bI (sO σ i))
  rw [h]; rfl
theorem dgM_t {ca : Nat → Bool} {d : Int64} {i : Nat} (h : ca i = true) : dgM ca d (i + 1) = dgM ca d i * 31 + (nI i).toInt64 := by
  show (if ca i = true then _ else _) = _
  rw [if_pos h]; rfl
theorem dgM_f {ca : Nat → Bool} {d : Int64} {i : Nat} (h : ca i = false) : dgM ca d (i + 1) = dgM ca d i := by
  show (if ca i = true then _ else _) = _
  rw [if_neg (by rw [h]; decide)]
