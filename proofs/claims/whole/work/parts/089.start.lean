theorem wd_t1_19 : (Cond.instantiable RX6 10) ∈ lw_tbl := wl_t1 (List.mem_of_getElem? (i := 19) rfl)
theorem wd_t4_57 : (Cond.instantiable RX7 23) ∈ lw_tbl := wl_t4 (List.mem_of_getElem? (i := 57) rfl)
theorem wd_t1_33 : (Cond.arrayOver (.array .int)) ∈ lw_tbl := wl_t1 (List.mem_of_getElem? (i := 33) rfl)
theorem wd_t5_133 : (Cond.arrayClass .long) ∈ lw_tbl := wl_t5 (List.mem_of_getElem? (i := 133) rfl)
theorem wd_t5_134 : (Cond.arrayClass .double) ∈ lw_tbl := wl_t5 (List.mem_of_getElem? (i := 134) rfl)
theorem wd_t1_123 : (Cond.methodLinkNest RX6 58 yX4_init RX6) ∈ lw_tbl := wl_t1 (List.mem_of_getElem? (i := 123) rfl)
theorem wd_t1_113 : (Cond.methodLinkNest RX6 51 yX5_init RX6) ∈ lw_tbl := wl_t1 (List.mem_of_getElem? (i := 113) rfl)
theorem wd_t1_97 : (Cond.methodLinkNest RX6 32 yX1_init RX6) ∈ lw_tbl := wl_t1 (List.mem_of_getElem? (i := 97) rfl)
theorem wd_t1_81 : (Cond.methodLinkNest RX6 25 yX0_init RX6) ∈ lw_tbl := wl_t1 (List.mem_of_getElem? (i := 81) rfl)
theorem wd_t1_59 : (Cond.methodLinkNest RX6 18 yX2_init RX6) ∈ lw_tbl := wl_t1 (List.mem_of_getElem? (i := 59) rfl)
theorem wd_t1_28 : (Cond.methodLinkNest RX6 11 yX3_init RX6) ∈ lw_tbl := wl_t1 (List.mem_of_getElem? (i := 28) rfl)
theorem wd_t2_196 : (Cond.methodLinkNest RX2 35 yX6_fold RX6) ∈ lw_tbl := wl_t2 (List.mem_of_getElem? (i := 196) rfl)
theorem wd_t2_151 : (Cond.methodLinkNest RX4 37 yX6_has RX6) ∈ lw_tbl := wl_t2 (List.mem_of_getElem? (i := 151) rfl)
theorem wd_t1_224 : (Cond.methodLinkNest RX3 40 yX6_has RX6) ∈ lw_tbl := wl_t1 (List.mem_of_getElem? (i := 224) rfl)
theorem wd_t2_12 : (Cond.methodLinkNest RX2 28 yX6_has RX6) ∈ lw_tbl := wl_t2 (List.mem_of_getElem? (i := 12) rfl)
theorem wd_t2_45 : (Cond.methodLinkNest RX1 23 yX6_has RX6) ∈ lw_tbl := wl_t2 (List.mem_of_getElem? (i := 45) rfl)
theorem wd_t2_191 : (Cond.methodLinkNest RX0 21 yX6_has RX6) ∈ lw_tbl := wl_t2 (List.mem_of_getElem? (i := 191) rfl)
theorem wd_t2_223 : (Cond.declares { cls := "java/lang/Throwable", name := "<init>", desc := "(Ljava/lang/String;)V" }) ∈ lw_tbl := wl_t2 (List.mem_of_getElem? (i := 223) rfl)
theorem wd_t2_221 : (Cond.declares { cls := "java/lang/Exception", name := "<init>", desc := "(Ljava/lang/String;)V" }) ∈ lw_tbl := wl_t2 (List.mem_of_getElem? (i := 221) rfl)
theorem wd_t2_219 : (Cond.declares { cls := "java/lang/RuntimeException", name := "<init>", desc := "(Ljava/lang/String;)V" }) ∈ lw_tbl := wl_t2 (List.mem_of_getElem? (i := 219) rfl)
theorem wd_t3_64 : (Cond.castable "java/lang/IllegalStateException" "java/lang/IllegalStateException") ∈ lw_tbl := wl_t3 (List.mem_of_getElem? (i := 64) rfl)
theorem wd_t3_48 : (Cond.castable "java/lang/IllegalArgumentException" "java/lang/IllegalArgumentException") ∈ lw_tbl := wl_t3 (List.mem_of_getElem? (i := 48) rfl)
theorem wd_t2_217 : (Cond.castable "java/lang/IndexOutOfBoundsException" "java/lang/IndexOutOfBoundsException") ∈ lw_tbl := wl_t2 (List.mem_of_getElem? (i := 217) rfl)
theorem wd_t3_217 : (Cond.stringRef RX6 251 "there is no such index") ∈ lw_tbl := wl_t3 (List.mem_of_getElem? (i := 217) rfl)
theorem wd_t3_191 : (Cond.stringRef RX6 249 "not a configuration of the features") ∈ lw_tbl := wl_t3 (List.mem_of_getElem? (i := 191) rfl)
theorem wd_t3_55 : (Cond.stringRef RX6 244 "the relation is not 0 to 3") ∈ lw_tbl := wl_t3 (List.mem_of_getElem? (i := 55) rfl)
theorem wd_t3_16 : (Cond.stringRef RX6 242 "there is no such feature") ∈ lw_tbl := wl_t3 (List.mem_of_getElem? (i := 16) rfl)
theorem wd_t3_175 : (Cond.stringRef RX6 138 "the budget is not -1 to 20000") ∈ lw_tbl := wl_t3 (List.mem_of_getElem? (i := 175) rfl)
theorem wd_t3_162 : (Cond.stringRef RX6 130 "the decision is not 0 to 2") ∈ lw_tbl := wl_t3 (List.mem_of_getElem? (i := 162) rfl)
theorem wd_t3_150 : (Cond.stringRef RX6 125 "there is no constraint") ∈ lw_tbl := wl_t3 (List.mem_of_getElem? (i := 150) rfl)
theorem wd_t3_138 : (Cond.stringRef RX6 119 "there is no such constraint") ∈ lw_tbl := wl_t3 (List.mem_of_getElem? (i := 138) rfl)
theorem wd_t3_126 : (Cond.stringRef RX6 111 "there are 10 constraints") ∈ lw_tbl := wl_t3 (List.mem_of_getElem? (i := 126) rfl)
theorem wd_t3_121 : (Cond.stringRef RX6 108 "the kind is not 0 or 1") ∈ lw_tbl := wl_t3 (List.mem_of_getElem? (i := 121) rfl)
theorem wd_t3_109 : (Cond.stringRef RX6 98 "cost or value is not 0 to 1000") ∈ lw_tbl := wl_t3 (List.mem_of_getElem? (i := 109) rfl)
theorem wd_t3_97 : (Cond.stringRef RX6 90 "the feature 0 has no relation") ∈ lw_tbl := wl_t3 (List.mem_of_getElem? (i := 97) rfl)
theorem wd_t3_71 : (Cond.stringRef RX6 76 "there are 12 features") ∈ lw_tbl := wl_t3 (List.mem_of_getElem? (i := 71) rfl)
theorem wd_t3_2 : (Cond.laysStatic "java/lang/Throwable" "UNASSIGNED_STACK" "[Ljava/lang/StackTraceElement;") ∈ lw_tbl := wl_t3 (List.mem_of_getElem? (i := 2) rfl)
theorem wd_t1_9 : (Cond.initialized "java/lang/Throwable") ∈ lw_tbl := wl_t1 (List.mem_of_getElem? (i := 9) rfl)
theorem wd_t3_4 : (Cond.laysStatic "java/lang/Throwable" "SUPPRESSED_SENTINEL" "Ljava/util/List;") ∈ lw_tbl := wl_t3 (List.mem_of_getElem? (i := 4) rfl)
theorem wd_t1_18 : (Cond.classLink RL 8 RX6) ∈ lw_tbl := wl_t1 (List.mem_of_getElem? (i := 18) rfl)
theorem wd_t1_20 : (Cond.methodLink RL 90 yX6_init) ∈ lw_tbl := wl_t1 (List.mem_of_getElem? (i := 20) rfl)
theorem wd_t1_21 : (Cond.instanceMethod yX6_init) ∈ lw_tbl := wl_t1 (List.mem_of_getElem? (i := 21) rfl)
theorem wd_t4_56 : (Cond.classLink RL 91 RX7) ∈ lw_tbl := wl_t4 (List.mem_of_getElem? (i := 56) rfl)
theorem wd_t4_58 : (Cond.methodLink RL 93 yX7_init) ∈ lw_tbl := wl_t4 (List.mem_of_getElem? (i := 58) rfl)
theorem wd_t4_59 : (Cond.instanceMethod yX7_init) ∈ lw_tbl := wl_t4 (List.mem_of_getElem? (i := 59) rfl)
set_option maxHeartbeats 4000000 in
set_option maxRecDepth 100000 in
theorem whole_start {p : Program} {e : Env} {s : State} {m : MethodId} {below : List Frame} {meth : Method} {c : Code} (l : Launch) (hflags : l.flags = flags0) {b L : Nat} {xs : Nat → Int32} (hL : L ≤ 2048) (C0 : lw_At p s m meth c b L xs) : W p l e room_1 s m #[Value.ref b] below meth c s.heap [] 0 0 (lw_Z below #[Value.ref b] s) (entryFrame m ([Value.ref b] : List Value).toArray 9) := by
  obtain ⟨hx, hb, hr, hml, hown, hts, hX, hbl, hlocks, hgv⟩ := id C0
  have hfl := flat_of_before _ hgv
  have hst : l.stackTraces = false := by unfold Launch.stackTraces; rw [hflags]; decide +kernel
  have hA : ∀ q : Nat, s.heap.size ≤ q → (fun q : Nat => s.heap.size ≤ q) q := fun _ h => h
  have hbA : ¬ (fun q : Nat => s.heap.size ≤ q) b := Nat.not_le.mpr hbl
  obtain ⟨c0, i0, hKn0⟩ := u_known (C := RX0) (T := TX0) (N := 3) (n := 3) hts inX0 (hts (.instantiable RX0 3) wd_t1_80)
  obtain ⟨c1, i1, hKn1⟩ := u_known (C := RX1) (T := TX1) (N := 3) (n := 3) hts inX1 (hts (.instantiable RX1 3) wd_t1_96)
  obtain ⟨c2, i2, hKn2⟩ := u_known (C := RX2) (T := TX2) (N := 5) (n := 5) hts inX2 (hts (.instantiable RX2 5) wd_t1_58)
  obtain ⟨c3, i3, hKn3⟩ := u_known (C := RX3) (T := TX3) (N := 7) (n := 7) hts inX3 (hts (.instantiable RX3 7) wd_t1_27)
  obtain ⟨c4, i4, hKn4⟩ := u_known (C := RX4) (T := TX4) (N := 1) (n := 1) hts inX4 (hts (.instantiable RX4 1) wd_t1_122)
  obtain ⟨c5, i5, hKn5⟩ := u_known (C := RX5) (T := TX5) (N := 1) (n := 1) hts inX5 (hts (.instantiable RX5 1) wd_t1_112)
  obtain ⟨c6, i6, hKn6⟩ := u_known (C := RX6) (T := TX6) (N := 10) (n := 10) hts inX6 (hts (.instantiable RX6 10) wd_t1_19)
  obtain ⟨c7, i7, hKn7⟩ := u_known (C := RX7) (T := TX7) (N := 23) (n := 23) hts inX7 (hts (.instantiable RX7 23) wd_t4_57)
  obtain ⟨G, hKc⟩ : ∃ G : va_G, ∀ (k : Nat) (q : vw_C), vwCl[k]? = some q → u_Kn s q.1 q.2.1 q.2.2 (G.1 k) (G.2 k) := by
    refine ⟨(fun k => match k with | 0 => c0 | 1 => c1 | 2 => c2 | 3 => c3 | 4 => c4 | 5 => c5 | 6 => c6 | _ => c7, fun k => match k with | 0 => i0 | 1 => i1 | 2 => i2 | 3 => i3 | 4 => i4 | 5 => i5 | 6 => i6 | _ => i7), ?_⟩
    intro k q hq
    match k, hq with
    | 0, hq => cases hq; exact hKn0
    | 1, hq => cases hq; exact hKn1
    | 2, hq => cases hq; exact hKn2
    | 3, hq => cases hq; exact hKn3
    | 4, hq => cases hq; exact hKn4
    | 5, hq => cases hq; exact hKn5
    | 6, hq => cases hq; exact hKn6
    | 7, hq => cases hq; exact hKn7
    | k + 8, hq => simp [vwCl] at hq
  obtain ⟨y0, hy0, hz0⟩ := arrOf (hts _ wd_t1_56)
  obtain ⟨y1, hy1, hz1⟩ := arrOf (hts _ wd_t4_132)
  obtain ⟨y2, hy2, hz2⟩ := arrOver (hts _ wd_t1_33)
  obtain ⟨y3, hy3, hz3⟩ := arrOf (hts _ wd_t5_133)
  obtain ⟨y4, hy4, hz4⟩ := arrOf (hts _ wd_t5_134)
  obtain ⟨k, hKa⟩ : ∃ k : Nat → ClassId, ∀ (j : Nat) (q : ClassId × FieldType), (tyG k)[j]? = some q → ArrOfT s q.1 q.2 ∧ va_RA s q.1 q.2 := by
    refine ⟨fun i => match i with | 0 => y0 | 1 => y1 | 2 => y2 | 3 => y3 | _ => y4, ?_⟩
    intro j q hq
    match j, hq with
    | 0, hq => cases hq; exact ⟨hy0, hz0⟩
    | 1, hq => cases hq; exact ⟨hy1, hz1⟩
    | 2, hq => cases hq; exact ⟨hy2, hz2⟩
    | 3, hq => cases hq; exact ⟨hy3, hz3⟩
    | 4, hq => cases hq; exact ⟨hy4, hz4⟩
    | j + 5, hq => simp [tyG] at hq
  have hK : va_K G vwCl (tyG k) s := ⟨hKc, hKa⟩
  have hN : gN s := ⟨List.forall_mem_cons.mpr ⟨va_Nw.of rfl (hts _ wd_t2_191), List.forall_mem_cons.mpr ⟨va_Nw.of rfl (hts _ wd_t2_45), List.forall_mem_cons.mpr ⟨va_Nw.of rfl (hts _ wd_t2_12), List.forall_mem_cons.mpr ⟨va_Nw.of rfl (hts _ wd_t1_224), List.forall_mem_cons.mpr ⟨va_Nw.of rfl (hts _ wd_t2_151), List.forall_mem_cons.mpr ⟨va_Nw.of rfl (hts _ wd_t2_196), List.forall_mem_cons.mpr ⟨va_Nw.of rfl (hts _ wd_t1_28), List.forall_mem_cons.mpr ⟨va_Nw.of rfl (hts _ wd_t1_59), List.forall_mem_cons.mpr ⟨va_Nw.of rfl (hts _ wd_t1_81), List.forall_mem_cons.mpr ⟨va_Nw.of rfl (hts _ wd_t1_97), List.forall_mem_cons.mpr ⟨va_Nw.of rfl (hts _ wd_t1_113), List.forall_mem_cons.mpr ⟨va_Nw.of rfl (hts _ wd_t1_123), fun _ h => absurd h List.not_mem_nil⟩⟩⟩⟩⟩⟩⟩⟩⟩⟩⟩⟩, aoN.of (hts _ wd_t1_33)⟩
  have hstr : ∀ (ix : Nat) (tx : String), (Cond.stringRef RX6 ix tx).before #[Value.ref b] s = true → ∃ sa : Nat, vk_R RX6 ix tx sa s := fun ix tx h => by
    obtain ⟨k9, cf9, i9, a9, -, -, -, -, -, h9⟩ := Cond.stringRef_spec (hKn6.2.1) h
    exact ⟨a9, vk_R.of h h9⟩
  have hE : xE (fun q : Nat => s.heap.size ≤ q) s := ⟨vx_Zqof (hts _ wd_t3_2) (hts _ wd_t1_9) (hfl (.isRef (.static Bundle.tN "UNASSIGNED_STACK" Bundle.steD)) (by decide +kernel)) (fun a h => Nat.not_le.mpr h), vx_Zqof (hts _ wd_t3_4) (hts _ wd_t1_9) (hfl (.isRef (.static Bundle.tN "SUPPRESSED_SENTINEL" Bundle.listD)) (by decide +kernel)) (fun a h => Nat.not_le.mpr h), List.forall_mem_cons.mpr ⟨va_Nw.of rfl (hts _ wd_t2_217), List.forall_mem_cons.mpr ⟨va_Nw.of rfl (hts _ wd_t3_48), List.forall_mem_cons.mpr ⟨va_Nw.of rfl (hts _ wd_t3_64), List.forall_mem_cons.mpr ⟨va_Nw.of rfl (hts _ wd_t2_219), List.forall_mem_cons.mpr ⟨va_Nw.of rfl (hts _ wd_t2_221), List.forall_mem_cons.mpr ⟨va_Nw.of rfl (hts _ wd_t2_223), fun _ h => absurd h List.not_mem_nil⟩⟩⟩⟩⟩⟩, List.forall_mem_cons.mpr ⟨hstr 76 _ (hts _ wd_t3_71), List.forall_mem_cons.mpr ⟨hstr 90 _ (hts _ wd_t3_97), List.forall_mem_cons.mpr ⟨hstr 98 _ (hts _ wd_t3_109), List.forall_mem_cons.mpr ⟨hstr 108 _ (hts _ wd_t3_121), List.forall_mem_cons.mpr ⟨hstr 111 _ (hts _ wd_t3_126), List.forall_mem_cons.mpr ⟨hstr 119 _ (hts _ wd_t3_138), List.forall_mem_cons.mpr ⟨hstr 125 _ (hts _ wd_t3_150), List.forall_mem_cons.mpr ⟨hstr 130 _ (hts _ wd_t3_162), List.forall_mem_cons.mpr ⟨hstr 138 _ (hts _ wd_t3_175), List.forall_mem_cons.mpr ⟨hstr 242 _ (hts _ wd_t3_16), List.forall_mem_cons.mpr ⟨hstr 244 _ (hts _ wd_t3_55), List.forall_mem_cons.mpr ⟨hstr 249 _ (hts _ wd_t3_191), List.forall_mem_cons.mpr ⟨hstr 251 _ (hts _ wd_t3_217), fun _ h => absurd h List.not_mem_nil⟩⟩⟩⟩⟩⟩⟩⟩⟩⟩⟩⟩⟩, List.forall_mem_cons.mpr ⟨va_Nc.of (hfl (.not (.castable eIO eIA)) (by decide +kernel)), List.forall_mem_cons.mpr ⟨va_Nc.of (hfl (.not (.castable eIO eIS)) (by decide +kernel)), List.forall_mem_cons.mpr ⟨va_Nc.of (hfl (.not (.castable eIA eIO)) (by decide +kernel)), List.forall_mem_cons.mpr ⟨va_Nc.of (hfl (.not (.castable eIA eIS)) (by decide +kernel)), List.forall_mem_cons.mpr ⟨va_Nc.of (hfl (.not (.castable eIS eIO)) (by decide +kernel)), List.forall_mem_cons.mpr ⟨va_Nc.of (hfl (.not (.castable eIS eIA)) (by decide +kernel)), fun _ h => absurd h List.not_mem_nil⟩⟩⟩⟩⟩⟩⟩
  have hS : va_S (fun q : Nat => s.heap.size ≤ q) s.heap s.heap [] := va_S.rf
  have hP : va_P G vwCl [] s.heap := fun k q h => by simp at h
  have hD : va_D (fun q : Nat => s.heap.size ≤ q) [] := ⟨fun i j p q h => by simp at h, fun k q h => by simp at h⟩
  have hl := lv_entry ([.ref b]) (n := 9) (Nat.le_of_ble_eq_true rfl)
  rw [lg_entry_eq]
  generalize (lg_sl ([.ref b]) ++ List.replicate (9 - (lg_sl ([.ref b])).length) Slot.unset).toArray = ls at hl ⊢
  have hl : lv_has ls 9 [(0, .ref b)] := hl
  have hown : s.vm.findClass RL = some m.cls := hown
  have SF : CallFix p m c code 9 s #[.ref b] lw_tbl RL := ⟨hx, hb, hml, hown, hts⟩
  refine va_new (D := G) (ci := 6) (C := RX6) (T := TX6) (N := 10) (fs := [.null, .null, .null, .null, .null, .null, .null, .null, .null, .null]) hx hb hts inX6 tyX6 tyX6_ok hown (hts _ wd_t1_18) (hts _ wd_t1_19) (hts _ wd_t1_1) hK hP hD hS hA rfl (fun j hj => match j, hj with | 0, _ => rfl | 1, _ => rfl | 2, _ => rfl | 3, _ => rfl | 4, _ => rfl | 5, _ => rfl | 6, _ => rfl | 7, _ => rfl | 8, _ => rfl | 9, _ => rfl | j + 10, hj => absurd hj (by omega)) (Nat.le_of_ble_eq_true rfl) (Nat.le_of_ble_eq_true rfl) dL_law_0 (fun q0 H hP hD hS => ?_)
  have hP : va_P G vwCl [(q0, .inr (6, [.null, .null, .null, .null, .null, .null, .null, .null, .null, .null]))] H := hP
  have hD : va_D (fun q : Nat => s.heap.size ≤ q) [(q0, .inr (6, [.null, .null, .null, .null, .null, .null, .null, .null, .null, .null]))] := hD
  refine lv_dup hx hb dL_law_3 rfl ?_
  refine bI_v (As := []) (wr := []) (wn := fun u => [(q0, .inr (6, [.ref u.1, .ref u.2.2.2.2.2.2.2.2.2.2.2.1, .ref u.2.2.2.2.2.2.2.2.2.2.2.2.2.2.2.1, .ref u.2.2.2.2.2.2.2.2.2.2.2.2.2.2.2.2.1, .ref u.2.2.2.2.2.2.2.2.2.2.2.2.2.2.2.2.2.2.1, .ref u.2.2.2.2.2.2.2.2.2.2.2.2.2.2.2.2.2.2.2.2.1, .ref u.2.2.2.2.2.2.2.2.2.2.2.2.2.2.2.2.2.2.2.2.2.2.1, .ref u.2.2.2.2.2.2.2.2.2.2.2.2.2.2.2.2.2.2.2.2.2.2.2.2.1, .ref u.2.2.2.2.2.2.2.2.2.2.2.2.2.2.2.2.2.2.2.2.2.2.2.2.2.2.1, .ref u.2.2.2.2.2.2.2.2.2.2.2.2.2.2.2.2.2.2.2.2.2.2.2.2.2.2.2.2.1])), (u.1, .inr (3, [.int (nI 1), .ref u.2.1, .ref u.2.2.1, .ref u.2.2.2.1, .ref u.2.2.2.2.1, .ref u.2.2.2.2.2.1, .ref u.2.2.2.2.2.2.1])), (u.2.1, .inl (k 0, 12, .inl (nA (fun _ => 0)))), (u.2.2.1, .inl (k 0, 12, .inl (nA (fun _ => 0)))), (u.2.2.2.1, .inl (k 0, 12, .inl (nA (fun _ => 0)))), (u.2.2.2.2.1, .inl (k 0, 12, .inl (nA (fun _ => 0)))), (u.2.2.2.2.2.1, .inl (k 0, 12, .inl (nA (fun _ => 0)))), (u.2.2.2.2.2.2.1, .inl (k 2, 4, .inr (.inr (.inr (.inr (q4 (u.2.2.2.2.2.2.2.1) (u.2.2.2.2.2.2.2.2.1) (u.2.2.2.2.2.2.2.2.2.1) (u.2.2.2.2.2.2.2.2.2.2.1))))))), (u.2.2.2.2.2.2.2.1, .inl (k 0, 12, .inl (nA (fun _ => 0)))), (u.2.2.2.2.2.2.2.2.1, .inl (k 0, 12, .inl (nA (fun _ => 0)))), (u.2.2.2.2.2.2.2.2.2.1, .inl (k 0, 12, .inl (nA (fun _ => 0)))), (u.2.2.2.2.2.2.2.2.2.2.1, .inl (k 0, 12, .inl (nA (fun _ => 0)))), (u.2.2.2.2.2.2.2.2.2.2.2.1, .inr (2, [.int (nI 0), .int (nI 0), .ref u.2.2.2.2.2.2.2.2.2.2.2.2.1, .ref u.2.2.2.2.2.2.2.2.2.2.2.2.2.1, .ref u.2.2.2.2.2.2.2.2.2.2.2.2.2.2.1])), (u.2.2.2.2.2.2.2.2.2.2.2.2.1, .inl (k 0, 10, .inl (nA (fun _ => 0)))), (u.2.2.2.2.2.2.2.2.2.2.2.2.2.1, .inl (k 0, 10, .inl (nA (fun _ => 0)))), (u.2.2.2.2.2.2.2.2.2.2.2.2.2.2.1, .inl (k 0, 10, .inl (nA (fun _ => 0)))), (u.2.2.2.2.2.2.2.2.2.2.2.2.2.2.2.1, .inr (0, [.int (nI 0), .int (nI 0), .int (-1)])), (u.2.2.2.2.2.2.2.2.2.2.2.2.2.2.2.2.1, .inr (1, [.ref u.2.2.2.2.2.2.2.2.2.2.2.2.2.2.2.2.2.1, .int (nI 0), .int (bI false)])), (u.2.2.2.2.2.2.2.2.2.2.2.2.2.2.2.2.2.1, .inl (k 0, 2048, .inl (nA (fun _ => 0)))), (u.2.2.2.2.2.2.2.2.2.2.2.2.2.2.2.2.2.2.1, .inr (1, [.ref u.2.2.2.2.2.2.2.2.2.2.2.2.2.2.2.2.2.2.2.1, .int (nI 0), .int (bI false)])), (u.2.2.2.2.2.2.2.2.2.2.2.2.2.2.2.2.2.2.2.1, .inl (k 0, 2048, .inl (nA (fun _ => 0)))), (u.2.2.2.2.2.2.2.2.2.2.2.2.2.2.2.2.2.2.2.2.1, .inr (1, [.ref u.2.2.2.2.2.2.2.2.2.2.2.2.2.2.2.2.2.2.2.2.2.1, .int (nI 0), .int (bI false)])), (u.2.2.2.2.2.2.2.2.2.2.2.2.2.2.2.2.2.2.2.2.2.1, .inl (k 0, 2048, .inl (nA (fun _ => 0)))), (u.2.2.2.2.2.2.2.2.2.2.2.2.2.2.2.2.2.2.2.2.2.2.1, .inr (1, [.ref u.2.2.2.2.2.2.2.2.2.2.2.2.2.2.2.2.2.2.2.2.2.2.2.1, .int (nI 0), .int (bI false)])), (u.2.2.2.2.2.2.2.2.2.2.2.2.2.2.2.2.2.2.2.2.2.2.2.1, .inl (k 0, 2048, .inl (nA (fun _ => 0)))), (u.2.2.2.2.2.2.2.2.2.2.2.2.2.2.2.2.2.2.2.2.2.2.2.2.1, .inr (1, [.ref u.2.2.2.2.2.2.2.2.2.2.2.2.2.2.2.2.2.2.2.2.2.2.2.2.2.1, .int (nI 0), .int (bI false)])), (u.2.2.2.2.2.2.2.2.2.2.2.2.2.2.2.2.2.2.2.2.2.2.2.2.2.1, .inl (k 0, 2048, .inl (nA (fun _ => 0)))), (u.2.2.2.2.2.2.2.2.2.2.2.2.2.2.2.2.2.2.2.2.2.2.2.2.2.2.1, .inr (5, [.ref u.2.2.2.2.2.2.2.2.2.2.2.2.2.2.2.2.2.2.2.2.2.2.2.2.2.2.2.1])), (u.2.2.2.2.2.2.2.2.2.2.2.2.2.2.2.2.2.2.2.2.2.2.2.2.2.2.2.1, .inl (k 0, 0, .inl (nA (fun _ => 0)))), (u.2.2.2.2.2.2.2.2.2.2.2.2.2.2.2.2.2.2.2.2.2.2.2.2.2.2.2.2.1, .inr (4, [.ref u.2.2.2.2.2.2.2.2.2.2.2.2.2.2.2.2.2.2.2.2.2.2.2.2.2.2.2.2.2])), (u.2.2.2.2.2.2.2.2.2.2.2.2.2.2.2.2.2.2.2.2.2.2.2.2.2.2.2.2.2, .inl (k 0, 24, .inl (nA (fun _ => 0))))]) SF hP hK hN hD hS hA (m_X6_init l G k _ q0) gk_90 wd_t1_1 wd_t1_20 wd_t1_21 rfl rfl rfl rfl hdl_90 rfl rfl (List.Perm.refl _) (fun _ => List.Perm.refl _) rfl hl.1 rfl rfl ⟨Nat.le_of_ble_eq_true rfl, Nat.le_of_ble_eq_true rfl⟩ dL_law_4 (fun u H locs _ hP hD hS => ?_)
  obtain ⟨a0, a1, a2, a3, a4, a5, a6, a7, a8, a9, a10, a11, a12, a13, a14, a15, a16, a17, a18, a19, a20, a21, a22, a23, a24, a25, a26, a27, a28, a29⟩ := u
  obtain ⟨bb, hbb⟩ : ∃ bb : Nat → Nat, bb = fun i => ([q0, a0, a1, a2, a3, a4, a5, a6, a7, a8, a9, a10, a11, a12, a13, a14, a15, a16, a17, a18, a19, a20, a21, a22, a23, a24, a25, a26, a28, a29] : List Nat).getD i 0 := ⟨_, rfl⟩
  have hcl : clW k bb sg0 (cx0 a27) = [(q0, .inr (6, [.ref a0, .ref a11, .ref a15, .ref a16, .ref a18, .ref a20, .ref a22, .ref a24, .ref a26, .ref a28])), (a0, .inr (3, [.int (nI 1), .ref a1, .ref a2, .ref a3, .ref a4, .ref a5, .ref a6])), (a1, .inl (k 0, 12, .inl (nA (fun _ => 0)))), (a2, .inl (k 0, 12, .inl (nA (fun _ => 0)))), (a3, .inl (k 0, 12, .inl (nA (fun _ => 0)))), (a4, .inl (k 0, 12, .inl (nA (fun _ => 0)))), (a5, .inl (k 0, 12, .inl (nA (fun _ => 0)))), (a6, .inl (k 2, 4, .inr (.inr (.inr (.inr (q4 (a7) (a8) (a9) (a10))))))), (a7, .inl (k 0, 12, .inl (nA (fun _ => 0)))), (a8, .inl (k 0, 12, .inl (nA (fun _ => 0)))), (a9, .inl (k 0, 12, .inl (nA (fun _ => 0)))), (a10, .inl (k 0, 12, .inl (nA (fun _ => 0)))), (a11, .inr (2, [.int (nI 0), .int (nI 0), .ref a12, .ref a13, .ref a14])), (a12, .inl (k 0, 10, .inl (nA (fun _ => 0)))), (a13, .inl (k 0, 10, .inl (nA (fun _ => 0)))), (a14, .inl (k 0, 10, .inl (nA (fun _ => 0)))), (a15, .inr (0, [.int (nI 0), .int (nI 0), .int (-1)])), (a16, .inr (1, [.ref a17, .int (nI 0), .int (bI false)])), (a17, .inl (k 0, 2048, .inl (nA (fun _ => 0)))), (a18, .inr (1, [.ref a19, .int (nI 0), .int (bI false)])), (a19, .inl (k 0, 2048, .inl (nA (fun _ => 0)))), (a20, .inr (1, [.ref a21, .int (nI 0), .int (bI false)])), (a21, .inl (k 0, 2048, .inl (nA (fun _ => 0)))), (a22, .inr (1, [.ref a23, .int (nI 0), .int (bI false)])), (a23, .inl (k 0, 2048, .inl (nA (fun _ => 0)))), (a24, .inr (1, [.ref a25, .int (nI 0), .int (bI false)])), (a25, .inl (k 0, 2048, .inl (nA (fun _ => 0)))), (a26, .inr (5, [.ref a27])), (a27, .inl (k 0, 0, .inl (nA (fun _ => 0)))), (a28, .inr (4, [.ref a29])), (a29, .inl (k 0, 24, .inl (nA (fun _ => 0))))] := by
    unfold clW
    rw [off_0, ch_0 0, ch_0 1, ch_0 2, ch_0 3, on_0, in_0, ou_0, hbb]
    rfl
  have hP : va_P G vwCl (clW k bb sg0 (cx0 a27)) H := by rw [hcl]; exact hP
  have hD : va_D (fun q : Nat => s.heap.size ≤ q) (clW k bb sg0 (cx0 a27)) := by rw [hcl]; exact hD
  have e0 : bb 0 = q0 := by rw [hbb]; rfl
  clear hcl
  refine lv_astore_n (lv' := [(1, .ref q0), (0, .ref b)]) hx hb dL_law_7 rfl hl (by decide) rfl (fun ls hl => ?_)
  refine va_new (D := G) (ci := 7) (C := RX7) (T := TX7) (N := 23) (fs := [.int (nI 0), .int (nI 0), .null, .null, .null, .null, .null, .int (nI 0), .null, .null, .null, .null, .int (nI 0), .int (bI false), .null, .null, .null, .null, .int (bI false), .int (nI 0), .int (nI 0), .null, .null]) hx hb hts inX7 tyX7 tyX7_ok hown (hts _ wd_t4_56) (hts _ wd_t4_57) (hts _ wd_t1_8) hK hP hD hS hA rfl (fun j hj => match j, hj with | 0, _ => rfl | 1, _ => rfl | 2, _ => rfl | 3, _ => rfl | 4, _ => rfl | 5, _ => rfl | 6, _ => rfl | 7, _ => rfl | 8, _ => rfl | 9, _ => rfl | 10, _ => rfl | 11, _ => rfl | 12, _ => rfl | 13, _ => rfl | 14, _ => rfl | 15, _ => rfl | 16, _ => rfl | 17, _ => rfl | 18, _ => rfl | 19, _ => rfl | 20, _ => rfl | 21, _ => rfl | 22, _ => rfl | j + 23, hj => absurd hj (by omega)) (Nat.le_of_ble_eq_true rfl) (Nat.le_of_ble_eq_true rfl) dL_law_8 (fun q1 H hP hD hS => ?_)
  refine lv_dup hx hb dL_law_11 rfl ?_
  refine bI_v (As := []) (wr := clW k bb sg0 (cx0 a27)) (wn := fun u => clW k bb sg0 (cx0 a27) ++ [(q1, .inr (7, [.int (nI 0), .int (nI 1), .ref u.1, .ref u.2.1, .ref u.2.2.1, .ref u.2.2.2.1, .ref u.2.2.2.2.1, .int (nI 0), .ref u.2.2.2.2.2.1, .ref u.2.2.2.2.2.2.1, .ref u.2.2.2.2.2.2.2.1, .ref u.2.2.2.2.2.2.2.2.1, .int (-1), .int (bI false), .ref u.2.2.2.2.2.2.2.2.2.1, .ref u.2.2.2.2.2.2.2.2.2.2.1, .ref u.2.2.2.2.2.2.2.2.2.2.2.1, .ref u.2.2.2.2.2.2.2.2.2.2.2.2.1, .int (bI false), .int (nI 0), .int (nI 0), .ref u.2.2.2.2.2.2.2.2.2.2.2.2.2.1, .ref u.2.2.2.2.2.2.2.2.2.2.2.2.2.2])), (u.1, .inl (k 0, 12, .inl (nA (fun _ => 0)))), (u.2.1, .inl (k 0, 12, .inl (nA (fun _ => 0)))), (u.2.2.1, .inl (k 0, 12, .inl (nA (fun _ => 0)))), (u.2.2.2.1, .inl (k 0, 12, .inl (nA (fun _ => 0)))), (u.2.2.2.2.1, .inl (k 0, 12, .inl (nA (fun _ => 0)))), (u.2.2.2.2.2.1, .inl (k 0, 10, .inl (nA (fun _ => 0)))), (u.2.2.2.2.2.2.1, .inl (k 0, 10, .inl (nA (fun _ => 0)))), (u.2.2.2.2.2.2.2.1, .inl (k 0, 10, .inl (nA (fun _ => 0)))), (u.2.2.2.2.2.2.2.2.1, .inl (k 1, 10, .inl (bA (fun _ => false)))), (u.2.2.2.2.2.2.2.2.2.1, .inl (k 1, 4096, .inl (bA (fun _ => false)))), (u.2.2.2.2.2.2.2.2.2.2.1, .inl (k 1, 4096, .inl (bA (fun _ => false)))), (u.2.2.2.2.2.2.2.2.2.2.2.1, .inl (k 0, 4096, .inl (nA (fun _ => 0)))), (u.2.2.2.2.2.2.2.2.2.2.2.2.1, .inl (k 0, 4096, .inl (nA (fun _ => 0)))), (u.2.2.2.2.2.2.2.2.2.2.2.2.2.1, .inl (k 0, 576, .inl (nA (fun _ => 0)))), (u.2.2.2.2.2.2.2.2.2.2.2.2.2.2, .inl (k 1, 576, .inl (bA (fun _ => false))))]) SF hP hK hN hD hS hA (m_X7_init l G k _ q1) gk_93 wd_t1_8 wd_t4_58 wd_t4_59 rfl rfl rfl rfl hdl_93 rfl rfl List.perm_append_comm (fun _ => List.perm_append_comm) rfl hl.1 rfl rfl ⟨Nat.le_of_ble_eq_true rfl, Nat.le_of_ble_eq_true rfl⟩ dL_law_12 (fun u H locs _ hP hD hS => ?_)
  obtain ⟨d0, d1, d2, d3, d4, d5, d6, d7, d8, d9, d10, d11, d12, d13, d14⟩ := u
  obtain ⟨aa, haa⟩ : ∃ aa : Nat → Nat, aa = fun i => ([q1, d0, d1, d2, d3, d4, d5, d6, d7, d8, d9, d10, d11, d12, d13, d14] : List Nat).getD i 0 := ⟨_, rfl⟩
  have hmo : moW k aa sg0 mx0 = [(q1, .inr (7, [.int (nI 0), .int (nI 1), .ref d0, .ref d1, .ref d2, .ref d3, .ref d4, .int (nI 0), .ref d5, .ref d6, .ref d7, .ref d8, .int (-1), .int (bI false), .ref d9, .ref d10, .ref d11, .ref d12, .int (bI false), .int (nI 0), .int (nI 0), .ref d13, .ref d14])), (d0, .inl (k 0, 12, .inl (nA (fun _ => 0)))), (d1, .inl (k 0, 12, .inl (nA (fun _ => 0)))), (d2, .inl (k 0, 12, .inl (nA (fun _ => 0)))), (d3, .inl (k 0, 12, .inl (nA (fun _ => 0)))), (d4, .inl (k 0, 12, .inl (nA (fun _ => 0)))), (d5, .inl (k 0, 10, .inl (nA (fun _ => 0)))), (d6, .inl (k 0, 10, .inl (nA (fun _ => 0)))), (d7, .inl (k 0, 10, .inl (nA (fun _ => 0)))), (d8, .inl (k 1, 10, .inl (bA (fun _ => false)))), (d9, .inl (k 1, 4096, .inl (bA (fun _ => false)))), (d10, .inl (k 1, 4096, .inl (bA (fun _ => false)))), (d11, .inl (k 0, 4096, .inl (nA (fun _ => 0)))), (d12, .inl (k 0, 4096, .inl (nA (fun _ => 0)))), (d13, .inl (k 0, 576, .inl (nA (fun _ => 0)))), (d14, .inl (k 1, 576, .inl (bA (fun _ => false))))] := by
    rw [haa]
    rfl
  have hP : va_P G vwCl (clW k bb sg0 (cx0 a27) ++ moW k aa sg0 mx0) H := by rw [hmo]; exact hP
  have hD : va_D (fun q : Nat => s.heap.size ≤ q) (clW k bb sg0 (cx0 a27) ++ moW k aa sg0 mx0) := by rw [hmo]; exact hD
  have e1 : aa 0 = q1 := by rw [haa]; rfl
  clear hmo
  refine lv_astore_n (lv' := [(2, .ref q1), (1, .ref q0), (0, .ref b)]) hx hb dL_law_15 rfl hl (by decide) rfl (fun ls hl => ?_)
  refine n_iconst 1 (by decide) hx hb dL_law_16 ?_
  refine n_newL (N := 1) hx hb (hts _ wd_t5_133) hK hP hD hS hA (by decide) (Nat.le_of_ble_eq_true rfl) (Nat.le_of_ble_eq_true rfl) dL_law_17 (fun oL H hP hD hS => ?_)
  refine lv_astore_n (lv' := [(3, .ref oL), (2, .ref q1), (1, .ref q0), (0, .ref b)]) hx hb dL_law_19 rfl hl (by decide) rfl (fun ls hl => ?_)
  refine n_iconst 1 (by decide) hx hb dL_law_20 ?_
  refine n_newD (N := 1) hx hb (hts _ wd_t5_134) hK hP hD hS hA (by decide) (Nat.le_of_ble_eq_true rfl) (Nat.le_of_ble_eq_true rfl) dL_law_21 (fun oD H hP hD hS => ?_)
  refine lv_astore (lv' := [(4, .ref oD), (3, .ref oL), (2, .ref q1), (1, .ref q0), (0, .ref b)]) hx hb dL_law_23 hl (by decide) rfl (fun ls hl => ?_)
  refine n_iconst 0 (by decide) hx hb dL_law_25 ?_
  refine lv_istore (lv' := [(5, .int (nI 0)), (4, .ref oD), (3, .ref oL), (2, .ref q1), (1, .ref q0), (0, .ref b)]) hx hb dL_law_26 hl (by decide) rfl (fun ls hl => ?_)
  have hw : ((clW k bb sg0 (cx0 a27) ++ moW k aa sg0 mx0) ++ outL k oL (fun _ => 0)) ++ outD k oD (fun _ => 0) = lawW k aa bb oL oD sg0 (cx0 a27) sg0 mx0 (fun _ => 0) (fun _ => 0) := by
    unfold lawW
    rw [List.append_assoc, List.append_assoc]
  have hP : va_P G vwCl (lawW k aa bb oL oD sg0 (cx0 a27) sg0 mx0 (fun _ => 0) (fun _ => 0)) H := by rw [← hw]; exact hP
  have hD : va_D (fun q : Nat => s.heap.size ≤ q) (lawW k aa bb oL oD sg0 (cx0 a27) sg0 mx0 (fun _ => 0) (fun _ => 0)) := by rw [← hw]; exact hD
  have hl : lv_has ls 9 [(0, .ref b), (1, .ref (bb 0)), (2, .ref (aa 0)), (3, .ref oL), (4, .ref oD), (5, .int (nI (4 * 0)))] := by rw [e0, e1]; exact lv_sub hl [5, 4, 3, 2, 1, 0] rfl
  exact law_loop SF hr hlocks hst hX hbl hbA hK hN hE hA (fun _ h => h) hL 513 0 (by decide) (by decide) (Nat.zero_le _) sg0 (cx0 a27) mx0 (fun _ => 0) (fun _ => 0) H locs ls (COK_0 a27) MOK_0 hP hD hS hl
