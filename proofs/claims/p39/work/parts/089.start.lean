theorem wd_t1_18 : (Cond.instantiable RX6 10) ∈ lw_tbl := wl_t1 (List.mem_of_getElem? (i := 18) rfl)
theorem wd_t1_32 : (Cond.arrayOver (.array .int)) ∈ lw_tbl := wl_t1 (List.mem_of_getElem? (i := 32) rfl)
theorem wd_t1_122 : (Cond.methodLinkNest RX6 58 yX4_init RX6) ∈ lw_tbl := wl_t1 (List.mem_of_getElem? (i := 122) rfl)
theorem wd_t1_112 : (Cond.methodLinkNest RX6 51 yX5_init RX6) ∈ lw_tbl := wl_t1 (List.mem_of_getElem? (i := 112) rfl)
theorem wd_t1_96 : (Cond.methodLinkNest RX6 32 yX1_init RX6) ∈ lw_tbl := wl_t1 (List.mem_of_getElem? (i := 96) rfl)
theorem wd_t1_80 : (Cond.methodLinkNest RX6 25 yX0_init RX6) ∈ lw_tbl := wl_t1 (List.mem_of_getElem? (i := 80) rfl)
theorem wd_t1_58 : (Cond.methodLinkNest RX6 18 yX2_init RX6) ∈ lw_tbl := wl_t1 (List.mem_of_getElem? (i := 58) rfl)
theorem wd_t1_27 : (Cond.methodLinkNest RX6 11 yX3_init RX6) ∈ lw_tbl := wl_t1 (List.mem_of_getElem? (i := 27) rfl)
theorem wd_t2_220 : (Cond.methodLinkNest RX4 37 yX6_has RX6) ∈ lw_tbl := wl_t2 (List.mem_of_getElem? (i := 220) rfl)
theorem wd_t2_71 : (Cond.methodLinkNest RX3 40 yX6_has RX6) ∈ lw_tbl := wl_t2 (List.mem_of_getElem? (i := 71) rfl)
theorem wd_t2_13 : (Cond.methodLinkNest RX2 28 yX6_has RX6) ∈ lw_tbl := wl_t2 (List.mem_of_getElem? (i := 13) rfl)
theorem wd_t2_187 : (Cond.methodLinkNest RX1 23 yX6_has RX6) ∈ lw_tbl := wl_t2 (List.mem_of_getElem? (i := 187) rfl)
theorem wd_t2_53 : (Cond.methodLinkNest RX0 21 yX6_has RX6) ∈ lw_tbl := wl_t2 (List.mem_of_getElem? (i := 53) rfl)
theorem wd_t1_177 : (Cond.declares { cls := "java/lang/Throwable", name := "<init>", desc := "(Ljava/lang/String;)V" }) ∈ lw_tbl := wl_t1 (List.mem_of_getElem? (i := 177) rfl)
theorem wd_t1_175 : (Cond.declares { cls := "java/lang/Exception", name := "<init>", desc := "(Ljava/lang/String;)V" }) ∈ lw_tbl := wl_t1 (List.mem_of_getElem? (i := 175) rfl)
theorem wd_t1_173 : (Cond.declares { cls := "java/lang/RuntimeException", name := "<init>", desc := "(Ljava/lang/String;)V" }) ∈ lw_tbl := wl_t1 (List.mem_of_getElem? (i := 173) rfl)
theorem wd_t3_20 : (Cond.castable "java/lang/IllegalStateException" "java/lang/IllegalStateException") ∈ lw_tbl := wl_t3 (List.mem_of_getElem? (i := 20) rfl)
theorem wd_t2_31 : (Cond.castable "java/lang/IllegalArgumentException" "java/lang/IllegalArgumentException") ∈ lw_tbl := wl_t2 (List.mem_of_getElem? (i := 31) rfl)
theorem wd_t1_171 : (Cond.castable "java/lang/IndexOutOfBoundsException" "java/lang/IndexOutOfBoundsException") ∈ lw_tbl := wl_t1 (List.mem_of_getElem? (i := 171) rfl)
theorem wd_t2_154 : (Cond.stringRef RX6 251 "there is no such index") ∈ lw_tbl := wl_t2 (List.mem_of_getElem? (i := 154) rfl)
theorem wd_t2_66 : (Cond.stringRef RX6 249 "not a configuration of the features") ∈ lw_tbl := wl_t2 (List.mem_of_getElem? (i := 66) rfl)
theorem wd_t3_17 : (Cond.stringRef RX6 244 "the relation is not 0 to 3") ∈ lw_tbl := wl_t3 (List.mem_of_getElem? (i := 17) rfl)
theorem wd_t2_28 : (Cond.stringRef RX6 242 "there is no such feature") ∈ lw_tbl := wl_t2 (List.mem_of_getElem? (i := 28) rfl)
theorem wd_t3_65 : (Cond.stringRef RX6 138 "the budget is not -1 to 20000") ∈ lw_tbl := wl_t3 (List.mem_of_getElem? (i := 65) rfl)
theorem wd_t2_38 : (Cond.stringRef RX6 130 "the decision is not 0 to 2") ∈ lw_tbl := wl_t2 (List.mem_of_getElem? (i := 38) rfl)
theorem wd_t3_27 : (Cond.stringRef RX6 76 "there are 12 features") ∈ lw_tbl := wl_t3 (List.mem_of_getElem? (i := 27) rfl)
theorem wd_t1_210 : (Cond.stringRef RX6 119 "there is no such constraint") ∈ lw_tbl := wl_t1 (List.mem_of_getElem? (i := 210) rfl)
theorem wd_t3_56 : (Cond.stringRef RX6 111 "there are 10 constraints") ∈ lw_tbl := wl_t3 (List.mem_of_getElem? (i := 56) rfl)
theorem wd_t3_55 : (Cond.stringRef RX6 108 "the kind is not 0 or 1") ∈ lw_tbl := wl_t3 (List.mem_of_getElem? (i := 55) rfl)
theorem wd_t3_46 : (Cond.stringRef RX6 98 "cost or value is not 0 to 1000") ∈ lw_tbl := wl_t3 (List.mem_of_getElem? (i := 46) rfl)
theorem wd_t1_196 : (Cond.laysStatic "java/lang/Throwable" "UNASSIGNED_STACK" "[Ljava/lang/StackTraceElement;") ∈ lw_tbl := wl_t1 (List.mem_of_getElem? (i := 196) rfl)
theorem wd_t1_8 : (Cond.initialized "java/lang/Throwable") ∈ lw_tbl := wl_t1 (List.mem_of_getElem? (i := 8) rfl)
theorem wd_t1_198 : (Cond.laysStatic "java/lang/Throwable" "SUPPRESSED_SENTINEL" "Ljava/util/List;") ∈ lw_tbl := wl_t1 (List.mem_of_getElem? (i := 198) rfl)
theorem wd_t1_17 : (Cond.classLink RL 20 RX6) ∈ lw_tbl := wl_t1 (List.mem_of_getElem? (i := 17) rfl)
theorem wd_t1_19 : (Cond.methodLink RL 51 yX6_init) ∈ lw_tbl := wl_t1 (List.mem_of_getElem? (i := 19) rfl)
theorem wd_t1_20 : (Cond.instanceMethod yX6_init) ∈ lw_tbl := wl_t1 (List.mem_of_getElem? (i := 20) rfl)
theorem arrOf {s : State} {args : Array Value} {ty : FieldType} (h : (Cond.arrayClass ty).before args s = true) : ∃ cA : ClassId, ArrOfT s cA ty ∧ s.vm.findClass ("[" ++ ty.toString) = some cA := by
  obtain ⟨c, k, comp, h1, h2, h3⟩ := Cond.arrayClass_spec h
  exact ⟨c, fun n z => ⟨fun q hq => (by cases hq), k, h2, comp, h3⟩, h1⟩
theorem arrOver {s : State} {args : Array Value} {t : FieldType} (h : (Cond.arrayOver (.array t)).before args s = true) : ∃ cA : ClassId, ArrOfT s cA (.array t) ∧ s.vm.findClass ("[" ++ (FieldType.array t).toString) = some cA := by
  have h : (Cond.arrayOver (.array t)).holds args s none s [] = true := h
  simp only [Cond.holds, Cond.value, beq_iff_eq] at h
  cases hc : s.vm.findClass (FieldType.array t).toString with
  | none => simp [hc] at h
  | some comp =>
    simp only [hc, Option.bind_some, Option.bind_eq_some_iff, Option.map_eq_some_iff] at h
    obtain ⟨c, hi, k, hk, hb⟩ := h
    cases hkind : k.kind with
    | array component ty =>
      rw [hkind] at hb
      simp at hb
      refine ⟨c, fun n z => ⟨fun q hq => (by cases hq), k, hk, component, ?_⟩, hb.2⟩
      rw [hkind, hb.1]
    | _ => rw [hkind] at hb; simp at hb
set_option maxHeartbeats 4000000 in
set_option maxRecDepth 100000 in
theorem whole_start {p : Program} {e : Env} {s : State} {m : MethodId} {below : List Frame} {meth : Method} {c : Code} (l : Launch) (hflags : l.flags = flags0) {bS L : Nat} {xs : Nat → Int32} (hL : L ≤ 260) (C0 : lw_At p s m meth c bS L xs) : W p l e room_1 s m #[Value.ref bS] below meth c s.heap [] 0 0 (lw_Z below #[Value.ref bS] s) (entryFrame m ([Value.ref bS] : List Value).toArray 15) := by
  obtain ⟨hx, hb, hr, hml, hown, hts, hX, hbl, hlocks, hgv⟩ := id C0
  have hfl := flat_of_before _ hgv
  have hst : l.stackTraces = false := by unfold Launch.stackTraces; rw [hflags]; decide +kernel
  have hA : ∀ q : Nat, s.heap.size ≤ q → (fun q : Nat => s.heap.size ≤ q) q := fun _ h => h
  have hbA : ¬ (fun q : Nat => s.heap.size ≤ q) bS := Nat.not_le.mpr hbl
  obtain ⟨c0, i0, hKn0⟩ := u_known (C := RX0) (T := TX0) (N := 3) (n := 3) hts inX0 (hts (.instantiable RX0 3) wd_t1_79)
  obtain ⟨c1, i1, hKn1⟩ := u_known (C := RX1) (T := TX1) (N := 3) (n := 3) hts inX1 (hts (.instantiable RX1 3) wd_t1_95)
  obtain ⟨c2, i2, hKn2⟩ := u_known (C := RX2) (T := TX2) (N := 5) (n := 5) hts inX2 (hts (.instantiable RX2 5) wd_t1_57)
  obtain ⟨c3, i3, hKn3⟩ := u_known (C := RX3) (T := TX3) (N := 7) (n := 7) hts inX3 (hts (.instantiable RX3 7) wd_t1_26)
  obtain ⟨c4, i4, hKn4⟩ := u_known (C := RX4) (T := TX4) (N := 1) (n := 1) hts inX4 (hts (.instantiable RX4 1) wd_t1_121)
  obtain ⟨c5, i5, hKn5⟩ := u_known (C := RX5) (T := TX5) (N := 1) (n := 1) hts inX5 (hts (.instantiable RX5 1) wd_t1_111)
  obtain ⟨c6, i6, hKn6⟩ := u_known (C := RX6) (T := TX6) (N := 10) (n := 10) hts inX6 (hts (.instantiable RX6 10) wd_t1_18)
  obtain ⟨G, hKc⟩ : ∃ G : va_G, ∀ (k : Nat) (q : vw_C), vwCl[k]? = some q → u_Kn s q.1 q.2.1 q.2.2 (G.1 k) (G.2 k) := by
    refine ⟨(fun k => match k with | 0 => c0 | 1 => c1 | 2 => c2 | 3 => c3 | 4 => c4 | 5 => c5 | _ => c6, fun k => match k with | 0 => i0 | 1 => i1 | 2 => i2 | 3 => i3 | 4 => i4 | 5 => i5 | _ => i6), ?_⟩
    intro k q hq
    match k, hq with
    | 0, hq => cases hq; exact hKn0
    | 1, hq => cases hq; exact hKn1
    | 2, hq => cases hq; exact hKn2
    | 3, hq => cases hq; exact hKn3
    | 4, hq => cases hq; exact hKn4
    | 5, hq => cases hq; exact hKn5
    | 6, hq => cases hq; exact hKn6
    | k + 7, hq => simp [vwCl] at hq
  obtain ⟨y0, hy0, hz0⟩ := arrOf (hts _ wd_t1_55)
  obtain ⟨y2, hy2, hz2⟩ := arrOver (hts _ wd_t1_32)
  have harr := hts _ wd_t1_55
  obtain ⟨k, hKa⟩ : ∃ k : Nat → ClassId, ∀ (j : Nat) (q : ClassId × FieldType), (tyG k)[j]? = some q → ArrOfT s q.1 q.2 ∧ va_RA s q.1 q.2 := by
    refine ⟨fun i => match i with | 2 => y2 | _ => y0, ?_⟩
    intro j q hq
    match j, hq with
    | 0, hq => cases hq; exact ⟨hy0, hz0⟩
    | 1, hq => cases hq; exact ⟨hy0, hz0⟩
    | 2, hq => cases hq; exact ⟨hy2, hz2⟩
    | 3, hq => cases hq; exact ⟨hy0, hz0⟩
    | 4, hq => cases hq; exact ⟨hy0, hz0⟩
    | j + 5, hq => simp [tyG] at hq
  have hK : va_K G vwCl (tyG k) s := ⟨hKc, hKa⟩
  have hN : gN s := ⟨List.forall_mem_cons.mpr ⟨va_Nw.of rfl (hts _ wd_t2_53), List.forall_mem_cons.mpr ⟨va_Nw.of rfl (hts _ wd_t2_187), List.forall_mem_cons.mpr ⟨va_Nw.of rfl (hts _ wd_t2_13), List.forall_mem_cons.mpr ⟨va_Nw.of rfl (hts _ wd_t2_71), List.forall_mem_cons.mpr ⟨va_Nw.of rfl (hts _ wd_t2_220), List.forall_mem_cons.mpr ⟨va_Nw.of rfl (hts _ wd_t2_220), List.forall_mem_cons.mpr ⟨va_Nw.of rfl (hts _ wd_t1_27), List.forall_mem_cons.mpr ⟨va_Nw.of rfl (hts _ wd_t1_58), List.forall_mem_cons.mpr ⟨va_Nw.of rfl (hts _ wd_t1_80), List.forall_mem_cons.mpr ⟨va_Nw.of rfl (hts _ wd_t1_96), List.forall_mem_cons.mpr ⟨va_Nw.of rfl (hts _ wd_t1_112), List.forall_mem_cons.mpr ⟨va_Nw.of rfl (hts _ wd_t1_122), fun _ h => absurd h List.not_mem_nil⟩⟩⟩⟩⟩⟩⟩⟩⟩⟩⟩⟩, aoN.of (hts _ wd_t1_32)⟩
  have hstr : ∀ (ix : Nat) (tx : String), (Cond.stringRef RX6 ix tx).before #[Value.ref bS] s = true → ∃ sa : Nat, vk_R RX6 ix tx sa s := fun ix tx h => by
    obtain ⟨k9, cf9, i9, a9, -, -, -, -, -, h9⟩ := Cond.stringRef_spec (hKn6.2.1) h
    exact ⟨a9, vk_R.of h h9⟩
  have hE : xE (fun q : Nat => s.heap.size ≤ q) s := ⟨vx_Zqof (hts _ wd_t1_196) (hts _ wd_t1_8) (hfl (.isRef (.static Bundle.tN "UNASSIGNED_STACK" Bundle.steD)) (by decide +kernel)) (fun a h => Nat.not_le.mpr h), vx_Zqof (hts _ wd_t1_198) (hts _ wd_t1_8) (hfl (.isRef (.static Bundle.tN "SUPPRESSED_SENTINEL" Bundle.listD)) (by decide +kernel)) (fun a h => Nat.not_le.mpr h), List.forall_mem_cons.mpr ⟨va_Nw.of rfl (hts _ wd_t1_171), List.forall_mem_cons.mpr ⟨va_Nw.of rfl (hts _ wd_t2_31), List.forall_mem_cons.mpr ⟨va_Nw.of rfl (hts _ wd_t3_20), List.forall_mem_cons.mpr ⟨va_Nw.of rfl (hts _ wd_t1_173), List.forall_mem_cons.mpr ⟨va_Nw.of rfl (hts _ wd_t1_175), List.forall_mem_cons.mpr ⟨va_Nw.of rfl (hts _ wd_t1_177), fun _ h => absurd h List.not_mem_nil⟩⟩⟩⟩⟩⟩, List.forall_mem_cons.mpr ⟨hstr 76 _ (hts _ wd_t3_27), List.forall_mem_cons.mpr ⟨hstr 76 _ (hts _ wd_t3_27), List.forall_mem_cons.mpr ⟨hstr 98 _ (hts _ wd_t3_46), List.forall_mem_cons.mpr ⟨hstr 108 _ (hts _ wd_t3_55), List.forall_mem_cons.mpr ⟨hstr 111 _ (hts _ wd_t3_56), List.forall_mem_cons.mpr ⟨hstr 119 _ (hts _ wd_t1_210), List.forall_mem_cons.mpr ⟨hstr 76 _ (hts _ wd_t3_27), List.forall_mem_cons.mpr ⟨hstr 130 _ (hts _ wd_t2_38), List.forall_mem_cons.mpr ⟨hstr 138 _ (hts _ wd_t3_65), List.forall_mem_cons.mpr ⟨hstr 242 _ (hts _ wd_t2_28), List.forall_mem_cons.mpr ⟨hstr 244 _ (hts _ wd_t3_17), List.forall_mem_cons.mpr ⟨hstr 249 _ (hts _ wd_t2_66), List.forall_mem_cons.mpr ⟨hstr 251 _ (hts _ wd_t2_154), fun _ h => absurd h List.not_mem_nil⟩⟩⟩⟩⟩⟩⟩⟩⟩⟩⟩⟩⟩, fun _ h => absurd h List.not_mem_nil⟩
  have hS : va_S (fun q : Nat => s.heap.size ≤ q) s.heap s.heap [] := va_S.rf
  have hP : va_P G vwCl [] s.heap := fun k q h => by simp at h
  have hD : va_D (fun q : Nat => s.heap.size ≤ q) [] := ⟨fun i j p q h => by simp at h, fun k q h => by simp at h⟩
  have hl := lv_entry ([.ref bS]) (n := 15) (Nat.le_of_ble_eq_true rfl)
  rw [lg_entry_eq]
  generalize (lg_sl ([.ref bS]) ++ List.replicate (15 - (lg_sl ([.ref bS])).length) Slot.unset).toArray = ls at hl ⊢
  have hl : lv_has ls 15 [(0, .ref bS)] := hl
  have hown : s.vm.findClass RL = some m.cls := hown
  have S : CallFix p m c code 15 s #[.ref bS] lw_tbl RL := ⟨hx, hb, hml, hown, hts⟩
  refine va_new (D := G) (ci := 6) (C := RX6) (T := TX6) (N := 10) (fs := [.null, .null, .null, .null, .null, .null, .null, .null, .null, .null]) hx hb hts inX6 tyX6 tyX6_ok hown (hts _ wd_t1_17) (hts _ wd_t1_18) (hts _ wd_t1_1) hK hP hD hS hA rfl (fun j hj => match j, hj with | 0, _ => rfl | 1, _ => rfl | 2, _ => rfl | 3, _ => rfl | 4, _ => rfl | 5, _ => rfl | 6, _ => rfl | 7, _ => rfl | 8, _ => rfl | 9, _ => rfl | j + 10, hj => absurd hj (by omega)) (Nat.le_of_ble_eq_true rfl) (Nat.le_of_ble_eq_true rfl) dL_law_0 (fun q0 H hP hD hS => ?_)
  have hP : va_P G vwCl [(q0, .inr (6, [.null, .null, .null, .null, .null, .null, .null, .null, .null, .null]))] H := hP
  have hD : va_D (fun q : Nat => s.heap.size ≤ q) [(q0, .inr (6, [.null, .null, .null, .null, .null, .null, .null, .null, .null, .null]))] := hD
  refine lv_dup hx hb dL_law_3 rfl ?_
  refine bI_v (As := []) (wr := []) (wn := fun u => [(q0, .inr (6, [.ref u.1, .ref u.2.2.2.2.2.2.2.2.2.2.2.1, .ref u.2.2.2.2.2.2.2.2.2.2.2.2.2.2.2.1, .ref u.2.2.2.2.2.2.2.2.2.2.2.2.2.2.2.2.1, .ref u.2.2.2.2.2.2.2.2.2.2.2.2.2.2.2.2.2.2.1, .ref u.2.2.2.2.2.2.2.2.2.2.2.2.2.2.2.2.2.2.2.2.1, .ref u.2.2.2.2.2.2.2.2.2.2.2.2.2.2.2.2.2.2.2.2.2.2.1, .ref u.2.2.2.2.2.2.2.2.2.2.2.2.2.2.2.2.2.2.2.2.2.2.2.2.1, .ref u.2.2.2.2.2.2.2.2.2.2.2.2.2.2.2.2.2.2.2.2.2.2.2.2.2.2.1, .ref u.2.2.2.2.2.2.2.2.2.2.2.2.2.2.2.2.2.2.2.2.2.2.2.2.2.2.2.2.1])), (u.1, .inr (3, [.int (nI 1), .ref u.2.1, .ref u.2.2.1, .ref u.2.2.2.1, .ref u.2.2.2.2.1, .ref u.2.2.2.2.2.1, .ref u.2.2.2.2.2.2.1])), (u.2.1, .inl (k 0, 12, .inl (nA (fun _ => 0)))), (u.2.2.1, .inl (k 0, 12, .inl (nA (fun _ => 0)))), (u.2.2.2.1, .inl (k 0, 12, .inl (nA (fun _ => 0)))), (u.2.2.2.2.1, .inl (k 0, 12, .inl (nA (fun _ => 0)))), (u.2.2.2.2.2.1, .inl (k 0, 12, .inl (nA (fun _ => 0)))), (u.2.2.2.2.2.2.1, .inl (k 2, 4, .inr (.inr (.inr (.inr (q4 (u.2.2.2.2.2.2.2.1) (u.2.2.2.2.2.2.2.2.1) (u.2.2.2.2.2.2.2.2.2.1) (u.2.2.2.2.2.2.2.2.2.2.1))))))), (u.2.2.2.2.2.2.2.1, .inl (k 0, 12, .inl (nA (fun _ => 0)))), (u.2.2.2.2.2.2.2.2.1, .inl (k 0, 12, .inl (nA (fun _ => 0)))), (u.2.2.2.2.2.2.2.2.2.1, .inl (k 0, 12, .inl (nA (fun _ => 0)))), (u.2.2.2.2.2.2.2.2.2.2.1, .inl (k 0, 12, .inl (nA (fun _ => 0)))), (u.2.2.2.2.2.2.2.2.2.2.2.1, .inr (2, [.int (nI 0), .int (nI 0), .ref u.2.2.2.2.2.2.2.2.2.2.2.2.1, .ref u.2.2.2.2.2.2.2.2.2.2.2.2.2.1, .ref u.2.2.2.2.2.2.2.2.2.2.2.2.2.2.1])), (u.2.2.2.2.2.2.2.2.2.2.2.2.1, .inl (k 0, 10, .inl (nA (fun _ => 0)))), (u.2.2.2.2.2.2.2.2.2.2.2.2.2.1, .inl (k 0, 10, .inl (nA (fun _ => 0)))), (u.2.2.2.2.2.2.2.2.2.2.2.2.2.2.1, .inl (k 0, 10, .inl (nA (fun _ => 0)))), (u.2.2.2.2.2.2.2.2.2.2.2.2.2.2.2.1, .inr (0, [.int (nI 0), .int (nI 0), .int (-1)])), (u.2.2.2.2.2.2.2.2.2.2.2.2.2.2.2.2.1, .inr (1, [.ref u.2.2.2.2.2.2.2.2.2.2.2.2.2.2.2.2.2.1, .int (nI 0), .int (bI false)])), (u.2.2.2.2.2.2.2.2.2.2.2.2.2.2.2.2.2.1, .inl (k 0, 2048, .inl (nA (fun _ => 0)))), (u.2.2.2.2.2.2.2.2.2.2.2.2.2.2.2.2.2.2.1, .inr (1, [.ref u.2.2.2.2.2.2.2.2.2.2.2.2.2.2.2.2.2.2.2.1, .int (nI 0), .int (bI false)])), (u.2.2.2.2.2.2.2.2.2.2.2.2.2.2.2.2.2.2.2.1, .inl (k 0, 2048, .inl (nA (fun _ => 0)))), (u.2.2.2.2.2.2.2.2.2.2.2.2.2.2.2.2.2.2.2.2.1, .inr (1, [.ref u.2.2.2.2.2.2.2.2.2.2.2.2.2.2.2.2.2.2.2.2.2.1, .int (nI 0), .int (bI false)])), (u.2.2.2.2.2.2.2.2.2.2.2.2.2.2.2.2.2.2.2.2.2.1, .inl (k 0, 2048, .inl (nA (fun _ => 0)))), (u.2.2.2.2.2.2.2.2.2.2.2.2.2.2.2.2.2.2.2.2.2.2.1, .inr (1, [.ref u.2.2.2.2.2.2.2.2.2.2.2.2.2.2.2.2.2.2.2.2.2.2.2.1, .int (nI 0), .int (bI false)])), (u.2.2.2.2.2.2.2.2.2.2.2.2.2.2.2.2.2.2.2.2.2.2.2.1, .inl (k 0, 2048, .inl (nA (fun _ => 0)))), (u.2.2.2.2.2.2.2.2.2.2.2.2.2.2.2.2.2.2.2.2.2.2.2.2.1, .inr (1, [.ref u.2.2.2.2.2.2.2.2.2.2.2.2.2.2.2.2.2.2.2.2.2.2.2.2.2.1, .int (nI 0), .int (bI false)])), (u.2.2.2.2.2.2.2.2.2.2.2.2.2.2.2.2.2.2.2.2.2.2.2.2.2.1, .inl (k 0, 2048, .inl (nA (fun _ => 0)))), (u.2.2.2.2.2.2.2.2.2.2.2.2.2.2.2.2.2.2.2.2.2.2.2.2.2.2.1, .inr (5, [.ref u.2.2.2.2.2.2.2.2.2.2.2.2.2.2.2.2.2.2.2.2.2.2.2.2.2.2.2.1])), (u.2.2.2.2.2.2.2.2.2.2.2.2.2.2.2.2.2.2.2.2.2.2.2.2.2.2.2.1, .inl (k 0, 0, .inl (nA (fun _ => 0)))), (u.2.2.2.2.2.2.2.2.2.2.2.2.2.2.2.2.2.2.2.2.2.2.2.2.2.2.2.2.1, .inr (4, [.ref u.2.2.2.2.2.2.2.2.2.2.2.2.2.2.2.2.2.2.2.2.2.2.2.2.2.2.2.2.2])), (u.2.2.2.2.2.2.2.2.2.2.2.2.2.2.2.2.2.2.2.2.2.2.2.2.2.2.2.2.2, .inl (k 0, 24, .inl (nA (fun _ => 0))))]) S hP hK hN hD hS hA (m_X6_init l G k _ q0) gk_51 wd_t1_1 wd_t1_19 wd_t1_20 rfl rfl rfl rfl hdl_51 rfl rfl (List.Perm.refl _) (fun _ => List.Perm.refl _) rfl hl.1 rfl rfl ⟨(Nat.le_of_ble_eq_true rfl), (Nat.le_of_ble_eq_true rfl)⟩ dL_law_4 (fun u H locs _ hP hD hS => ?_)
  obtain ⟨ad0, ad1, ad2, ad3, ad4, ad5, ad6, ad7, ad8, ad9, ad10, ad11, ad12, ad13, ad14, ad15, ad16, ad17, ad18, ad19, ad20, ad21, ad22, ad23, ad24, ad25, ad26, ad27, ad28, ad29⟩ := u
  obtain ⟨b, hbb⟩ : ∃ b : Nat → Nat, b = fun i => ([q0, ad0, ad1, ad2, ad3, ad4, ad5, ad6, ad7, ad8, ad9, ad10, ad11, ad12, ad13, ad14, ad15, ad16, ad17, ad18, ad19, ad20, ad21, ad22, ad23, ad24, ad25, ad26, ad28, ad29] : List Nat).getD i 0 := ⟨_, rfl⟩
  have hcl : clW k b sg0 (cx0 ad27) = [(q0, .inr (6, [.ref ad0, .ref ad11, .ref ad15, .ref ad16, .ref ad18, .ref ad20, .ref ad22, .ref ad24, .ref ad26, .ref ad28])), (ad0, .inr (3, [.int (nI 1), .ref ad1, .ref ad2, .ref ad3, .ref ad4, .ref ad5, .ref ad6])), (ad1, .inl (k 0, 12, .inl (nA (fun _ => 0)))), (ad2, .inl (k 0, 12, .inl (nA (fun _ => 0)))), (ad3, .inl (k 0, 12, .inl (nA (fun _ => 0)))), (ad4, .inl (k 0, 12, .inl (nA (fun _ => 0)))), (ad5, .inl (k 0, 12, .inl (nA (fun _ => 0)))), (ad6, .inl (k 2, 4, .inr (.inr (.inr (.inr (q4 (ad7) (ad8) (ad9) (ad10))))))), (ad7, .inl (k 0, 12, .inl (nA (fun _ => 0)))), (ad8, .inl (k 0, 12, .inl (nA (fun _ => 0)))), (ad9, .inl (k 0, 12, .inl (nA (fun _ => 0)))), (ad10, .inl (k 0, 12, .inl (nA (fun _ => 0)))), (ad11, .inr (2, [.int (nI 0), .int (nI 0), .ref ad12, .ref ad13, .ref ad14])), (ad12, .inl (k 0, 10, .inl (nA (fun _ => 0)))), (ad13, .inl (k 0, 10, .inl (nA (fun _ => 0)))), (ad14, .inl (k 0, 10, .inl (nA (fun _ => 0)))), (ad15, .inr (0, [.int (nI 0), .int (nI 0), .int (-1)])), (ad16, .inr (1, [.ref ad17, .int (nI 0), .int (bI false)])), (ad17, .inl (k 0, 2048, .inl (nA (fun _ => 0)))), (ad18, .inr (1, [.ref ad19, .int (nI 0), .int (bI false)])), (ad19, .inl (k 0, 2048, .inl (nA (fun _ => 0)))), (ad20, .inr (1, [.ref ad21, .int (nI 0), .int (bI false)])), (ad21, .inl (k 0, 2048, .inl (nA (fun _ => 0)))), (ad22, .inr (1, [.ref ad23, .int (nI 0), .int (bI false)])), (ad23, .inl (k 0, 2048, .inl (nA (fun _ => 0)))), (ad24, .inr (1, [.ref ad25, .int (nI 0), .int (bI false)])), (ad25, .inl (k 0, 2048, .inl (nA (fun _ => 0)))), (ad26, .inr (5, [.ref ad27])), (ad27, .inl (k 0, 0, .inl (nA (fun _ => 0)))), (ad28, .inr (4, [.ref ad29])), (ad29, .inl (k 0, 24, .inl (nA (fun _ => 0))))] := by
    unfold clW
    rw [off_0, ch_0 0, ch_0 1, ch_0 2, ch_0 3, on_0, in_0, ou_0, hbb]
    rfl
  have hP : va_P G vwCl (clW k b sg0 (cx0 ad27)) H := by rw [hcl]; exact hP
  have hD : va_D (fun q : Nat => s.heap.size ≤ q) (clW k b sg0 (cx0 ad27)) := by rw [hcl]; exact hD
  have e0 : b 0 = q0 := by rw [hbb]; rfl
  clear hcl
  refine lv_astore_n (lv' := [(1, .ref q0), (0, .ref bS)]) hx hb dL_law_7 rfl hl (by decide) rfl (fun ls hl => ?_)
  rw [← e0] at hl
  refine n_bipush 60 (by decide) hx hb dL_law_8 ?_
  refine n_newI (N := 60) hx hb harr hK hP hD hS hA (by decide) (Nat.le_of_ble_eq_true rfl) (Nat.le_of_ble_eq_true rfl) dL_law_10 (fun oR H hP hD hS => ?_)
  refine lv_astore_n (lv' := [(2, .ref oR), (1, .ref (b 0)), (0, .ref bS)]) hx hb dL_law_12 rfl hl (by decide) rfl (fun ls hl => ?_)
  refine n_bipush 40 (by decide) hx hb dL_law_13 ?_
  refine n_newI (N := 40) hx hb harr hK hP hD hS hA (by decide) (Nat.le_of_ble_eq_true rfl) (Nat.le_of_ble_eq_true rfl) dL_law_15 (fun oC H hP hD hS => ?_)
  refine lv_astore_n (lv' := [(3, .ref oC), (2, .ref oR), (1, .ref (b 0)), (0, .ref bS)]) hx hb dL_law_17 rfl hl (by decide) rfl (fun ls hl => ?_)
  refine n_iconst 3 (by decide) hx hb dL_law_18 ?_
  refine n_newI (N := 3) hx hb harr hK hP hD hS hA (by decide) (Nat.le_of_ble_eq_true rfl) (Nat.le_of_ble_eq_true rfl) dL_law_19 (fun oN H hP hD hS => ?_)
  refine lv_astore (lv' := [(4, .ref oN), (3, .ref oC), (2, .ref oR), (1, .ref (b 0)), (0, .ref bS)]) hx hb dL_law_21 hl (by decide) rfl (fun ls hl => ?_)
  have hw : ((clW k b sg0 (cx0 ad27) ++ [(oR, .inl (k 0, 60, .inl (nA (fun _ => 0))))]) ++ [(oC, .inl (k 0, 40, .inl (nA (fun _ => 0))))]) ++ [(oN, .inl (k 0, 3, .inl (nA (fun _ => 0))))] = clW k b sg0 (cx0 ad27) ++ a3 k oR oC oN (nA (fun _ => 0)) (nA (fun _ => 0)) (nA (fun _ => 0)) := by
    rw [List.append_assoc, List.append_assoc]; rfl
  rw [hw] at hP hD
  refine lv_aload_n hx hb dL_law_23 rfl (lv_at hl 3 rfl) ?_
  refine lv_aload_n hx hb dL_law_24 rfl (lv_at hl 4 rfl) ?_
  refine n_iconst 0 (by decide) hx hb dL_law_25 ?_
  refine n_bipush 7 (by decide) hx hb dL_law_26 ?_
  refine lv_aload_n hx hb dL_law_28 rfl (lv_at hl 2 rfl) ?_
  refine lv_aload_n hx hb dL_law_29 rfl (lv_at hl 1 rfl) ?_
  refine lv_aload hx hb dL_law_30 (lv_at hl 0 rfl) ?_
  refine bB_i (As := [.ref (b 0), .ref bS, .int (nI 0), .int (nI 7), .ref oR, .ref oC, .ref oN]) (wr := []) (wn := fun u : Sg × Cx × (Nat → Int32) × (Nat → Int32) × (Nat → Int32) => clW k b u.1 u.2.1 ++ a3 k oR oC oN u.2.2.1 u.2.2.2.1 u.2.2.2.2) S hX hbl hbA hP hK hN hE hD hS hA (m_L_build l hst G k _ b (cx0 ad27) oR oC oN bS L xs hL (COK_0 ad27)) gw_52 rfl rfl rfl hdl_52 rfl rfl (by first | (rw [List.append_nil]; done) | (rw [List.append_nil]; exact List.Perm.refl _)) (fun u => (by first | (rw [List.append_nil]; done) | (rw [List.append_nil]; exact List.Perm.refl _))) rfl hl.1 rfl rfl ⟨(Nat.le_of_ble_eq_true rfl), (Nat.le_of_ble_eq_true rfl)⟩ dL_law_32 (fun rX u H locs hw hP hD hS => ?_)
  obtain ⟨σ, x, fr, fc, fn⟩ := u
  obtain ⟨hr1, hok, hB⟩ := hw
  subst hr1
  dsimp only at hok hB hP hD
  refine b_if_ne (tgt := 40) hx hb dL_law_35 (by decide) (fun q35 => ?_) (fun q35 => absurd q35 (by decide))
  refine W.widen (k := 154) (n := 11271) (Nat.le_of_ble_eq_true rfl) (Nat.le_of_ble_eq_true rfl) ?_
  exact law_run S hst hK hN hE hA hr hlocks (fun _ h => h) harr hB hok hP hD hS (lv_sub hl [4, 3, 2, 1, 0] rfl)
