theorem arrOf {s : State} {args : Array Value} {ty : FieldType} (h : (Cond.arrayClass ty).before args s = true) : ∃ cA : ClassId, ArrOfT s cA ty ∧ s.vm.findClass ("[" ++ ty.toString) = some cA := by
  obtain ⟨c, k, comp, h1, h2, h3⟩ := Cond.arrayClass_spec h
  exact ⟨c, fun n z => ⟨fun q hq => (by cases hq), k, h2, comp, h3⟩, h1⟩
theorem arrOver {s : State} {args : Array Value} {t : FieldType} (h : (Cond.arrayOver (.array t)).before args s = true) : ∃ cA : ClassId, ArrOfT s cA (.array t) ∧ s.vm.findClass ("[" ++ (FieldType.array t).toString) = some cA := by
  have h : (Cond.arrayOver (.array t)).holds args s none s [] = true := h
  simp only [Cond.holds, Cond.value, beq_iff_eq] at h
  cases hc : s.vm.findClass (FieldType.array t).toString with
  | none => simp [hc] at h
  | some comp =>
    simp only [hc, Option.bind_some, Option.bind_eq_some_iff, Option.map_eq_some_iff] at h
    obtain ⟨c, hi, k, hk, hb⟩ := h
    cases hkind : k.kind with
    | array component ty =>
      rw [hkind] at hb
      simp at hb
      refine ⟨c, fun n z => ⟨fun q hq => (by cases hq), k, hk, component, ?_⟩, hb.2⟩
      rw [hkind, hb.1]
    | _ => rw [hkind] at hb; simp at hb
theorem and63 (x : Int32) : ∃ v : Nat, v < 64 ∧ x &&& nI 63 = nI v := by
  refine ⟨x.toBitVec.toNat &&& 63, Nat.lt_of_le_of_lt Nat.and_le_right (by decide), ?_⟩
  rw [← xI_and]
  congr 1
  apply Int32.toBitVec_inj.1
  show x.toBitVec = BitVec.ofNat 32 x.toBitVec.toNat
  rw [BitVec.ofNat_toNat, BitVec.setWidth_eq]
theorem loop_gt {L i : Nat} (hL : L ≤ 2048) (hi : i ≤ 512) : nI L - nI 4 < nI (4 * i) ↔ L < 4 * i + 4 := by
  rw [Int32.lt_iff_toInt_lt, pk_sub_toInt (by omega) (by decide), nI_toInt (by omega)]
  omega
def sg0 : Sg := (1, fun _ => 0, fun _ => 0, fun _ => 0, fun _ => 0, fun _ => 0, 0, fun _ => 0, fun _ => 0, fun _ => 0, fun _ => false, -1)
def cx0 (q : Nat) : Cx := (false, 0, fun _ => 0, false, 0, fun _ => 0, false, 0, fun _ => 0, false, 0, fun _ => 0, false, 0, fun _ => 0, q, 0, nA (fun _ => 0), fun _ => 0)
def mx0 : Mx := (0, false, fun _ => false, fun _ => false, fun _ => 0, fun _ => 0, false, 0, 0, fun _ => 0, fun _ => false)
theorem WF_0 : WF sg0 := ⟨by decide, by decide, fun i h1 h2 => absurd (show i < 1 from h2) (by omega), fun _ => by show 0 < 12; decide, fun _ => by show 0 < 4; decide, fun _ => by show 0 ≤ 1000; decide, fun _ => by show 0 ≤ 1000; decide, fun _ => by show 0 < 3; decide, fun _ _ => rfl, by decide, fun _ => by show 0 < 2; decide, fun _ => by show 0 < 12; decide, fun _ => by show 0 < 12; decide⟩
theorem COK_0 (q : Nat) : COK sg0 (cx0 q) := ⟨WF_0, fun z => absurd (show false = true from z) Bool.false_ne_true, fun z => absurd (show false = true from z) Bool.false_ne_true, fun z => absurd (show false = true from z) Bool.false_ne_true, fun z => absurd (show false = true from z) Bool.false_ne_true, fun z => absurd (show false = true from z) Bool.false_ne_true, Or.inl rfl⟩
theorem MOK_0 : MOK sg0 mx0 := ⟨WF_0, fun z => absurd (show false = true from z) Bool.false_ne_true, fun z => absurd (show false = true from z) Bool.false_ne_true⟩
theorem off_0 : offS sg0 = fun _ => 0 := funext (fun f => bit_ext (fun i => by
  rw [offS_bit, Nat.zero_testBit]
  show (decide (i < 1) && (decide (1 ≤ i) && _)) = false
  by_cases h : i < 1
  · rw [decide_eq_false (show ¬ 1 ≤ i by omega), Bool.false_and, Bool.and_false]
  · rw [decide_eq_false h, Bool.false_and]))
theorem ch_0 (r : Nat) : chS sg0 r = fun _ => 0 := funext (fun f => bit_ext (fun i => by
  rw [chS_bit, Nat.zero_testBit]
  show (decide (i < 1) && (decide (1 ≤ i) && _)) = false
  by_cases h : i < 1
  · rw [decide_eq_false (show ¬ 1 ≤ i by omega), Bool.false_and, Bool.and_false]
  · rw [decide_eq_false h, Bool.false_and]))
theorem dec_0 {e : Nat} (he : e ≠ 0) : decM (sD sg0) e (sN sg0) = 0 := bit_ext (fun i => by
  unfold decM
  rw [maskN_bit, Nat.zero_testBit]
  show (_ && decide ((0 : Nat) = e)) = false
  rw [show decide ((0 : Nat) = e) = false from decide_eq_false (fun z => he z.symm), Bool.and_false])
theorem on_0 : onS sg0 = 0 := rfl
theorem in_0 : inS sg0 = 0 := dec_0 (by decide)
theorem ou_0 : ouS sg0 = 0 := dec_0 (by decide)
set_option maxHeartbeats 4000000 in
set_option maxRecDepth 100000 in
theorem law_loop {p : Program} {l : Launch} {e : Env} {s : State} {m : MethodId} {below : List Frame} {meth : Method} {c : Code} {A : Nat → Prop} {G : va_G} {k : Nat → ClassId} {bS L : Nat} {xs : Nat → Int32} {a b : Nat → Nat} {oL oD : Nat}
    (S : CallFix p m c code 9 s #[.ref bS] lw_tbl RL) (hr : meth.sig.returnType = ret) (hlocks : meth.locks = false) (hst : l.stackTraces = false) (hX : va_X bS L xs s s.heap) (hbl : bS < s.heap.size) (hbA : ¬ A bS) (hK : va_K G vwCl (tyG k) s) (hN : gN s) (hE : xE A s) (hA : ∀ q, s.heap.size ≤ q → A q) (hA2 : ∀ q, A q → s.heap.size ≤ q) (hL : L ≤ 2048) : ∀ (N i : Nat), 512 - i < N → i ≤ 512 → 4 * i ≤ L → ∀ (σ : Sg) (x : Cx) (y : Mx) (fo : Nat → Int64) (fd : Nat → UInt64) (H : Heap) (locs : List Loc) (ls : Array Slot), COK σ x → MOK σ y → va_P G vwCl (lawW k a b oL oD σ x σ y fo fd) H → va_D A (lawW k a b oL oD σ x σ y fo fd) → va_S A s.heap H locs → lv_has ls 9 [(0, .ref bS), (1, .ref (b 0)), (2, .ref (a 0)), (3, .ref oL), (4, .ref oD), (5, .int (nI (4 * i)))] →
    W p l e room_1 s m #[.ref bS] below meth c H locs (49 + 5 * i) (28109 + 12040 * i) (lw_Z below #[.ref bS] s) (F0 m 28 ls []) := by
  obtain ⟨hx, hb, hml, hown, hts⟩ := id S
  intro N
  induction N with
  | zero => intro i h; exact absurd h (Nat.not_lt_zero _)
  | succ N ih =>
    intro i hi h512 hiL σ x y fo fd H locs ls hok hmk hP hD hS hl
    refine lv_iload hx hb dL_law_28 (lv_at hl 5 rfl) ?_
    refine lv_aload_n hx hb dL_law_30 rfl (lv_at hl 0 rfl) ?_
    refine va_slen hx hb hX hbl hbA hS dL_law_31 ?_
    refine n_iconst 4 (by decide) hx hb dL_law_32 ?_
    refine lv_isub hx hb dL_law_33 ?_
    refine lv_icmp_gt (tgt := 1800) hx hb dL_law_34 (by decide) (fun q34 => ?_) (fun q34 => ?_)
    · refine n_iconst 1 (by decide) hx hb dL_law_1800 ?_
      refine W.widen (k := 601024) (n := 7293034) (by omega) (by omega) ?_
      refine va_forget (fun q hq => hA2 _ (hS.2.2 q hq)) ?_
      exact W.base (lw_ret (Drawn.sameBut.refl s.drawn lw_cs) hx hb hr hlocks dL_law_1801)
    have hlt : ¬ L < 4 * i + 4 := fun z => q34 ((loop_gt hL h512).mpr z)
    refine lv_aload_n hx hb dL_law_37 rfl (lv_at hl 0 rfl) ?_
    refine lv_iload hx hb dL_law_38 (lv_at hl 5 rfl) ?_
    refine s_ld (i := 4 * i) hx hb hX hbl hbA hS (by omega) (by omega) dL_law_40 ?_
    refine n_bipush 63 (by decide) hx hb dL_law_41 ?_
    refine lv_iand hx hb dL_law_43 ?_
    have hgo : ∀ (σ1 : Sg) (x1 : Cx) (y1 : Mx) (fo1 : Nat → Int64) (fd1 : Nat → UInt64) (H1 : Heap) (locs1 : List Loc) (ls1 : Array Slot), COK σ1 x1 → MOK σ1 y1 → va_P G vwCl (lawW k a b oL oD σ1 x1 σ1 y1 fo1 fd1) H1 → va_D A (lawW k a b oL oD σ1 x1 σ1 y1 fo1 fd1) → va_S A s.heap H1 locs1 → lv_has ls1 9 [(0, .ref bS), (1, .ref (b 0)), (2, .ref (a 0)), (3, .ref oL), (4, .ref oD), (5, .int (nI (4 * i)))] → W p l e room_1 s m #[.ref bS] below meth c H1 locs1 (49 + 5 * (i + 1)) (28109 + 12040 * (i + 1)) (lw_Z below #[.ref bS] s) (F0 m 1794 ls1 []) := fun σ1 x1 y1 fo1 fd1 H1 locs1 ls1 hok1 hmk1 hP1 hD1 hS1 hl1 => by
      refine n_iinc (lv' := [(5, .int (nI (4 * i + 4))), (0, .ref bS), (1, .ref (b 0)), (2, .ref (a 0)), (3, .ref oL), (4, .ref oD)]) (k := 5) 4 hx hb dL_law_1794 hl1 rfl (by decide) (by decide) rfl (fun ls2 hl2 => ?_)
      refine lv_goto (tgt := 28) hx hb dL_law_1797 (by decide) ?_
      have hl3 := lv_sub (l' := [(0, .ref bS), (1, .ref (b 0)), (2, .ref (a 0)), (3, .ref oL), (4, .ref oD), (5, .int (nI (4 * i + 4)))]) hl2 [1, 2, 3, 4, 5, 0] rfl
      rw [show 4 * i + 4 = 4 * (i + 1) by omega] at hl3
      exact ih (i + 1) (by omega) (by omega) (by omega) σ1 x1 y1 fo1 fd1 H1 locs1 ls2 hok1 hmk1 hP1 hD1 hS1 hl3
    have hend : ∀ (σ1 : Sg) (x1 : Cx) (y1 : Mx) (fo1 : Nat → Int64) (fd1 : Nat → UInt64) (H1 : Heap) (locs1 : List Loc) (ls1 : Array Slot), COK σ1 x1 → MOK σ1 y1 → va_P G vwCl (lawW k a b oL oD σ1 x1 σ1 y1 fo1 fd1) H1 → va_D A (lawW k a b oL oD σ1 x1 σ1 y1 fo1 fd1) → va_S A s.heap H1 locs1 → lv_has ls1 9 [(0, .ref bS), (1, .ref (b 0)), (2, .ref (a 0)), (3, .ref oL), (4, .ref oD), (5, .int (nI (4 * i)))] → W p l e room_1 s m #[.ref bS] below meth c H1 locs1 (49 + 5 * i + 5) (28109 + 12040 * i + 12040) (lw_Z below #[.ref bS] s) (F0 m 1794 ls1 []) := fun σ1 x1 y1 fo1 fd1 H1 locs1 ls1 h1 h2 h3 h4 h5 h6 => W.widen (by omega) (by omega) (hgo σ1 x1 y1 fo1 fd1 H1 locs1 ls1 h1 h2 h3 h4 h5 h6)
    obtain ⟨v, hv64, hv⟩ := and63 (xs (4 * i))
    rw [hv]
    rcases Nat.lt_or_ge v 36 with h36 | h36
    · clear hv
      rcases (show v = 0 ∨ v = 1 ∨ v = 2 ∨ v = 3 ∨ v = 4 ∨ v = 5 ∨ v = 6 ∨ v = 7 ∨ v = 8 ∨ v = 9 ∨ v = 10 ∨ v = 11 ∨ v = 12 ∨ v = 13 ∨ v = 14 ∨ v = 15 ∨ v = 16 ∨ v = 17 ∨ v = 18 ∨ v = 19 ∨ v = 20 ∨ v = 21 ∨ v = 22 ∨ v = 23 ∨ v = 24 ∨ v = 25 ∨ v = 26 ∨ v = 27 ∨ v = 28 ∨ v = 29 ∨ v = 30 ∨ v = 31 ∨ v = 32 ∨ v = 33 ∨ v = 34 ∨ v = 35 by omega) with hv | hv | hv | hv | hv | hv | hv | hv | hv | hv | hv | hv | hv | hv | hv | hv | hv | hv | hv | hv | hv | hv | hv | hv | hv | hv | hv | hv | hv | hv | hv | hv | hv | hv | hv | hv
      · subst hv
        refine lv_tableIn (tgt := 204) (off := 160) hx hb dL_law_44 (by decide) (by decide) (by rfl) (by decide) ?_
        exact law_c0 (i9 := i) S hst hX hbl hbA hK hN hE hA (by omega) (by omega) (by omega) hL hok hmk hP hD hS (lv_sub hl [0, 1, 2, 3, 4, 5] rfl) hend
      · subst hv
        refine lv_tableIn (tgt := 272) (off := 228) hx hb dL_law_44 (by decide) (by decide) (by rfl) (by decide) ?_
        exact law_c1 (i9 := i) S hst hX hbl hbA hK hN hE hA (by omega) (by omega) (by omega) hL hok hmk hP hD hS (lv_sub hl [0, 1, 2, 3, 4, 5] rfl) hend
      · subst hv
        refine lv_tableIn (tgt := 340) (off := 296) hx hb dL_law_44 (by decide) (by decide) (by rfl) (by decide) ?_
        exact law_c2 (i9 := i) S hst hX hbl hbA hK hN hE hA (by omega) (by omega) (by omega) hL hok hmk hP hD hS (lv_sub hl [0, 1, 2, 3, 4, 5] rfl) hend
      · subst hv
        refine lv_tableIn (tgt := 427) (off := 383) hx hb dL_law_44 (by decide) (by decide) (by rfl) (by decide) ?_
        exact law_c3 (i9 := i) S hst hX hbl hbA hK hN hE hA (by omega) (by omega) (by omega) hL hok hmk hP hD hS (lv_sub hl [0, 1, 2, 3, 4, 5] rfl) hend
      · subst hv
        refine lv_tableIn (tgt := 507) (off := 463) hx hb dL_law_44 (by decide) (by decide) (by rfl) (by decide) ?_
        exact law_c4 (i9 := i) S hst hX hbl hbA hK hN hE hA (by omega) (by omega) (by omega) hL hok hmk hP hD hS (lv_sub hl [0, 1, 2, 3, 4, 5] rfl) hend
      · subst hv
        refine lv_tableIn (tgt := 598) (off := 554) hx hb dL_law_44 (by decide) (by decide) (by rfl) (by decide) ?_
        exact law_c5 (i9 := i) S hst hX hbl hbA hK hN hE hA (by omega) (by omega) (by omega) hL hok hmk hP hD hS (lv_sub hl [0, 1, 2, 3, 4, 5] rfl) hend
      · subst hv
        refine lv_tableIn (tgt := 642) (off := 598) hx hb dL_law_44 (by decide) (by decide) (by rfl) (by decide) ?_
        exact law_c6 (i9 := i) S hst hX hbl hbA hK hN hE hA (by omega) (by omega) (by omega) hL hok hmk hP hD hS (lv_sub hl [0, 1, 2, 3, 4, 5] rfl) hend
      · subst hv
        refine lv_tableIn (tgt := 655) (off := 611) hx hb dL_law_44 (by decide) (by decide) (by rfl) (by decide) ?_
        exact law_c7 (i9 := i) S hst hX hbl hbA hK hN hE hA (by omega) (by omega) (by omega) hL hok hmk hP hD hS (lv_sub hl [0, 1, 2, 3, 4, 5] rfl) hend
      · subst hv
        refine lv_tableIn (tgt := 723) (off := 679) hx hb dL_law_44 (by decide) (by decide) (by rfl) (by decide) ?_
        exact law_c8 (i9 := i) S hst hX hbl hbA hK hN hE hA (by omega) (by omega) (by omega) hL hok hmk hP hD hS (lv_sub hl [0, 1, 2, 3, 4, 5] rfl) hend
      · subst hv
        refine lv_tableIn (tgt := 736) (off := 692) hx hb dL_law_44 (by decide) (by decide) (by rfl) (by decide) ?_
        exact law_c9 (i9 := i) S hst hX hbl hbA hK hN hE hA (by omega) (by omega) (by omega) hL hok hmk hP hD hS (lv_sub hl [0, 1, 2, 3, 4, 5] rfl) hend
      · subst hv
        refine lv_tableIn (tgt := 792) (off := 748) hx hb dL_law_44 (by decide) (by decide) (by rfl) (by decide) ?_
        exact law_c10 (i9 := i) S hst hX hbl hbA hK hN hE hA (by omega) (by omega) (by omega) hL hok hmk hP hD hS (lv_sub hl [0, 1, 2, 3, 4, 5] rfl) hend
      · subst hv
        refine lv_tableIn (tgt := 848) (off := 804) hx hb dL_law_44 (by decide) (by decide) (by rfl) (by decide) ?_
        exact law_c11 (i9 := i) S hst hX hbl hbA hK hN hE hA (by omega) (by omega) (by omega) hL hok hmk hP hD hS (lv_sub hl [0, 1, 2, 3, 4, 5] rfl) hend
      · subst hv
        refine lv_tableIn (tgt := 904) (off := 860) hx hb dL_law_44 (by decide) (by decide) (by rfl) (by decide) ?_
        exact law_c12 (i9 := i) S hst hX hbl hbA hK hN hE hA (by omega) (by omega) (by omega) hL hok hmk hP hD hS (lv_sub hl [0, 1, 2, 3, 4, 5] rfl) hend
      · subst hv
        refine lv_tableIn (tgt := 960) (off := 916) hx hb dL_law_44 (by decide) (by decide) (by rfl) (by decide) ?_
        exact law_c13 (i9 := i) S hst hX hbl hbA hK hN hE hA (by omega) (by omega) (by omega) hL hok hmk hP hD hS (lv_sub hl [0, 1, 2, 3, 4, 5] rfl) hend
      · subst hv
        refine lv_tableIn (tgt := 973) (off := 929) hx hb dL_law_44 (by decide) (by decide) (by rfl) (by decide) ?_
        exact law_c14 (i9 := i) S hst hX hbl hbA hK hN hE hA (by omega) (by omega) (by omega) hL hok hmk hP hD hS (lv_sub hl [0, 1, 2, 3, 4, 5] rfl) hend
      · subst hv
        refine lv_tableIn (tgt := 1029) (off := 985) hx hb dL_law_44 (by decide) (by decide) (by rfl) (by decide) ?_
        exact law_c15 (i9 := i) S hst hX hbl hbA hK hN hE hA (by omega) (by omega) (by omega) hL hok hmk hP hD hS (lv_sub hl [0, 1, 2, 3, 4, 5] rfl) hend
      · subst hv
        refine lv_tableIn (tgt := 1092) (off := 1048) hx hb dL_law_44 (by decide) (by decide) (by rfl) (by decide) ?_
        exact law_c16 (i9 := i) S hst hX hbl hbA hK hN hE hA (by omega) (by omega) (by omega) hL hok hmk hP hD hS (lv_sub hl [0, 1, 2, 3, 4, 5] rfl) hend
      · subst hv
        refine lv_tableIn (tgt := 1155) (off := 1111) hx hb dL_law_44 (by decide) (by decide) (by rfl) (by decide) ?_
        exact law_c17 (i9 := i) S hst hX hbl hbA hK hN hE hA (by omega) (by omega) (by omega) hL hok hmk hP hD hS (lv_sub hl [0, 1, 2, 3, 4, 5] rfl) hend
      · subst hv
        refine lv_tableIn (tgt := 1218) (off := 1174) hx hb dL_law_44 (by decide) (by decide) (by rfl) (by decide) ?_
        exact law_c18 (i9 := i) S hst hX hbl hbA hK hN hE hA (by omega) (by omega) (by omega) hL hok hmk hP hD hS (lv_sub hl [0, 1, 2, 3, 4, 5] rfl) hend
      · subst hv
        refine lv_tableIn (tgt := 1293) (off := 1249) hx hb dL_law_44 (by decide) (by decide) (by rfl) (by decide) ?_
        exact law_c19 (i9 := i) S hst hX hbl hbA hK hN hE hA (by omega) (by omega) (by omega) hL hok hmk hP hD hS (lv_sub hl [0, 1, 2, 3, 4, 5] rfl) hend
      · subst hv
        refine lv_tableIn (tgt := 1306) (off := 1262) hx hb dL_law_44 (by decide) (by decide) (by rfl) (by decide) ?_
        exact law_c20 (i9 := i) S hst hX hbl hbA hK hN hE hA (by omega) (by omega) (by omega) hL hok hmk hP hD hS (lv_sub hl [0, 1, 2, 3, 4, 5] rfl) hend
      · subst hv
        refine lv_tableIn (tgt := 1362) (off := 1318) hx hb dL_law_44 (by decide) (by decide) (by rfl) (by decide) ?_
        exact law_c21 (i9 := i) S hst hX hbl hbA hK hN hE hA (by omega) (by omega) (by omega) hL hok hmk hP hD hS (lv_sub hl [0, 1, 2, 3, 4, 5] rfl) hend
      · subst hv
        refine lv_tableIn (tgt := 1375) (off := 1331) hx hb dL_law_44 (by decide) (by decide) (by rfl) (by decide) ?_
        exact law_c22 (i9 := i) S hst hX hbl hbA hK hN hE hA (by omega) (by omega) (by omega) hL hok hmk hP hD hS (lv_sub hl [0, 1, 2, 3, 4, 5] rfl) hend
      · subst hv
        refine lv_tableIn (tgt := 1431) (off := 1387) hx hb dL_law_44 (by decide) (by decide) (by rfl) (by decide) ?_
        exact law_c23 (i9 := i) S hst hX hbl hbA hK hN hE hA (by omega) (by omega) (by omega) hL hok hmk hP hD hS (lv_sub hl [0, 1, 2, 3, 4, 5] rfl) hend
      · subst hv
        refine lv_tableIn (tgt := 1444) (off := 1400) hx hb dL_law_44 (by decide) (by decide) (by rfl) (by decide) ?_
        exact law_c24 (i9 := i) S hst hX hbl hbA hK hN hE hA (by omega) (by omega) (by omega) hL hok hmk hP hD hS (lv_sub hl [0, 1, 2, 3, 4, 5] rfl) hend
      · subst hv
        refine lv_tableIn (tgt := 1457) (off := 1413) hx hb dL_law_44 (by decide) (by decide) (by rfl) (by decide) ?_
        exact law_c25 (i9 := i) S hst hX hbl hbA hK hN hE hA (by omega) (by omega) (by omega) hL hok hmk hP hD hS (lv_sub hl [0, 1, 2, 3, 4, 5] rfl) hend
      · subst hv
        refine lv_tableIn (tgt := 1534) (off := 1490) hx hb dL_law_44 (by decide) (by decide) (by rfl) (by decide) ?_
        exact law_c26 (i9 := i) S hst hX hbl hbA hK hN hE hA (by omega) (by omega) (by omega) hL hok hmk hP hD hS (lv_sub hl [0, 1, 2, 3, 4, 5] rfl) hend
      · subst hv
        refine lv_tableIn (tgt := 1547) (off := 1503) hx hb dL_law_44 (by decide) (by decide) (by rfl) (by decide) ?_
        exact law_c27 (i9 := i) S hst hX hbl hbA hK hN hE hA (by omega) (by omega) (by omega) hL hok hmk hP hD hS (lv_sub hl [0, 1, 2, 3, 4, 5] rfl) hend
      · subst hv
        refine lv_tableIn (tgt := 1560) (off := 1516) hx hb dL_law_44 (by decide) (by decide) (by rfl) (by decide) ?_
        exact law_c28 (i9 := i) S hst hX hbl hbA hK hN hE hA (by omega) (by omega) (by omega) hL hok hmk hP hD hS (lv_sub hl [0, 1, 2, 3, 4, 5] rfl) hend
      · subst hv
        refine lv_tableIn (tgt := 1573) (off := 1529) hx hb dL_law_44 (by decide) (by decide) (by rfl) (by decide) ?_
        exact law_c29 (i9 := i) S hst hX hbl hbA hK hN hE hA (by omega) (by omega) (by omega) hL hok hmk hP hD hS (lv_sub hl [0, 1, 2, 3, 4, 5] rfl) hend
      · subst hv
        refine lv_tableIn (tgt := 1586) (off := 1542) hx hb dL_law_44 (by decide) (by decide) (by rfl) (by decide) ?_
        exact law_c30 (i9 := i) S hst hX hbl hbA hK hN hE hA (by omega) (by omega) (by omega) hL hok hmk hP hD hS (lv_sub hl [0, 1, 2, 3, 4, 5] rfl) hend
      · subst hv
        refine lv_tableIn (tgt := 1642) (off := 1598) hx hb dL_law_44 (by decide) (by decide) (by rfl) (by decide) ?_
        exact law_c31 (i9 := i) S hst hX hbl hbA hK hN hE hA (by omega) (by omega) (by omega) hL hok hmk hP hD hS (lv_sub hl [0, 1, 2, 3, 4, 5] rfl) hend
      · subst hv
        refine lv_tableIn (tgt := 1698) (off := 1654) hx hb dL_law_44 (by decide) (by decide) (by rfl) (by decide) ?_
        exact law_c32 (i9 := i) S hst hX hbl hbA hK hN hE hA (by omega) (by omega) (by omega) hL hok hmk hP hD hS (lv_sub hl [0, 1, 2, 3, 4, 5] rfl) hend
      · subst hv
        refine lv_tableIn (tgt := 1711) (off := 1667) hx hb dL_law_44 (by decide) (by decide) (by rfl) (by decide) ?_
        exact law_c33 (i9 := i) S hst hX hbl hbA hK hN hE hA (by omega) (by omega) (by omega) hL hok hmk hP hD hS (lv_sub hl [0, 1, 2, 3, 4, 5] rfl) hend
      · subst hv
        refine lv_tableIn (tgt := 1724) (off := 1680) hx hb dL_law_44 (by decide) (by decide) (by rfl) (by decide) ?_
        exact law_c34 (i9 := i) S hst hX hbl hbA hK hN hE hA (by omega) (by omega) (by omega) hL hok hmk hP hD hS (lv_sub hl [0, 1, 2, 3, 4, 5] rfl) hend
      · subst hv
        refine lv_tableIn (tgt := 1780) (off := 1736) hx hb dL_law_44 (by decide) (by decide) (by rfl) (by decide) ?_
        exact law_c35 (i9 := i) S hst hX hbl hbA hK hN hE hA (by omega) (by omega) (by omega) hL hok hmk hP hD hS (lv_sub hl [0, 1, 2, 3, 4, 5] rfl) hend
    · refine lv_tableOut (tgt := 1794) hx hb dL_law_44 (Or.inr (by rw [nI_toInt (by omega)]; omega)) (by decide) ?_
      exact W.widen (by omega) (by omega) (hgo σ x y fo fd H locs ls hok hmk hP hD hS (lv_sub hl [0, 1, 2, 3, 4, 5] rfl))
