/-! worlds cut into blocks; methods that catch -/
theorem P_mem {D : va_G} {cl : List vw_C} {ws : va_W} {H : Heap} : va_P D cl ws H ↔ ∀ q ∈ ws, va_at D cl q H :=
  ⟨fun h q hq => by obtain ⟨k, hk⟩ := List.mem_iff_getElem?.mp hq; exact h k q hk, fun h k q hk => h q (List.mem_of_getElem? hk)⟩
theorem P_perm {D : va_G} {cl : List vw_C} {ws ws' : va_W} {H : Heap} (hp : ws.Perm ws') (h : va_P D cl ws H) : va_P D cl ws' H := P_mem.mpr (fun q hq => P_mem.mp h q (hp.mem_iff.mpr hq))
theorem D_iff {A : Nat → Prop} {ws : va_W} : va_D A ws ↔ ws.Pairwise (fun p q => p.1 ≠ q.1) ∧ ∀ q ∈ ws, A q.1 := by
  constructor
  · rintro ⟨h1, h2⟩
    refine ⟨List.pairwise_iff_getElem.mpr (fun i j hi hj hij he => ?_), fun q hq => ?_⟩
    · have := h1 i j _ _ (List.getElem?_eq_getElem hi) (List.getElem?_eq_getElem hj) he
      omega
    · obtain ⟨k, hk⟩ := List.mem_iff_getElem?.mp hq
      exact h2 k q hk
  · rintro ⟨h1, h2⟩
    refine ⟨fun i j p q hi hj he => ?_, fun k q hk => h2 q (List.mem_of_getElem? hk)⟩
    obtain ⟨a1, a2⟩ := List.getElem?_eq_some_iff.mp hi
    obtain ⟨b1, b2⟩ := List.getElem?_eq_some_iff.mp hj
    have h3 := List.pairwise_iff_getElem.mp h1
    rcases Nat.lt_trichotomy i j with h | h | h
    · exact absurd (by rw [a2, b2]; exact he) (h3 i j a1 b1 h)
    · exact h
    · exact absurd (by rw [a2, b2]; exact he.symm) (h3 j i b1 a1 h)
theorem D_perm {A : Nat → Prop} {ws ws' : va_W} (hp : ws.Perm ws') (h : va_D A ws) : va_D A ws' := by
  obtain ⟨h1, h2⟩ := D_iff.mp h
  exact D_iff.mpr ⟨(List.Perm.pairwise_iff (fun z => Ne.symm z) hp).mp h1, fun q hq => h2 q (hp.mem_iff.mpr hq)⟩
theorem D_app {A : Nat → Prop} {a b : va_W} : va_D A (a ++ b) ↔ va_D A a ∧ va_D A b ∧ ∀ p ∈ a, ∀ q ∈ b, p.1 ≠ q.1 := by
  rw [D_iff, D_iff, D_iff, List.pairwise_append]
  constructor
  · rintro ⟨⟨h1, h2, h3⟩, h4⟩
    exact ⟨⟨h1, fun q hq => h4 q (List.mem_append_left _ hq)⟩, ⟨h2, fun q hq => h4 q (List.mem_append_right _ hq)⟩, h3⟩
  · rintro ⟨⟨h1, h2⟩, ⟨h3, h4⟩, h5⟩
    exact ⟨⟨h1, h3, h5⟩, fun q hq => (List.mem_append.mp hq).elim (h2 q) (h4 q)⟩
theorem P_l {D : va_G} {cl : List vw_C} {a b : va_W} {H : Heap} (h : va_P D cl (a ++ b) H) : va_P D cl a H := P_mem.mpr (fun q hq => P_mem.mp h q (List.mem_append_left _ hq))
theorem P_r {D : va_G} {cl : List vw_C} {a b : va_W} {H : Heap} (h : va_P D cl (a ++ b) H) : va_P D cl b H := P_mem.mpr (fun q hq => P_mem.mp h q (List.mem_append_right _ hq))
theorem A_mem {ws : va_W} {sz q : Nat} (h : va_A ws sz q) : (∃ z ∈ ws, z.1 = q) ∨ sz ≤ q := by
  rcases h with ⟨k, e, hk⟩ | h
  · exact Or.inl ⟨_, List.mem_of_getElem? hk, rfl⟩
  · exact Or.inr h
/-- behind a call with a block of the world: the callee's world beside the rest -/
theorem blk_call {G : va_G} {A : Nat → Prop} {wc w1 rest : va_W} {H H1 : Heap} (hP : va_P G vwCl (wc ++ rest) H) (hD : va_D A (wc ++ rest)) (hk : ∀ q : Nat, q < H.size → ¬ va_A wc H.size q → H1[q]? = H[q]?) (hF : ∀ q, va_A wc H.size q → A q)
    (hP1 : va_P G vwCl w1 H1) (hD1 : va_D (va_A wc H.size) w1) : va_P G vwCl (w1 ++ rest) H1 ∧ va_D A (w1 ++ rest) := by
  obtain ⟨d1, d2, d3⟩ := D_app.mp hD
  have hn : ∀ q ∈ rest, q.1 < H.size ∧ ¬ va_A wc H.size q.1 := fun q hq => by
    have hlt := (P_mem.mp (P_r hP) q hq).lt
    refine ⟨hlt, fun z => ?_⟩
    rcases A_mem z with ⟨p, hp, he⟩ | h
    · exact d3 p hp q hq he
    · omega
  refine ⟨hP1.app ((P_r hP).kept (fun k q hq => hk q.1 (hn q (List.mem_of_getElem? hq)).1 (hn q (List.mem_of_getElem? hq)).2)), D_app.mpr ⟨?_, d2, fun p hp q hq he => ?_⟩⟩
  · obtain ⟨e1, e2⟩ := D_iff.mp hD1
    exact D_iff.mpr ⟨e1, fun q hq => hF q.1 (e2 q hq)⟩
  · exact (hn q hq).2 (he ▸ (D_iff.mp hD1).2 p hp)
theorem blk_free {A : Nat → Prop} {wc rest : va_W} {H0 H : Heap} {locs : List Loc} (hD : va_D A (wc ++ rest)) (hS : va_S A H0 H locs) (hA : ∀ q, H0.size ≤ q → A q) : ∀ q, va_A wc H.size q → A q := fun q h => by
  rcases A_mem h with ⟨z, hz, rfl⟩ | h
  · exact (D_iff.mp hD).2 z (List.mem_append_left _ hz)
  · exact hA q (Nat.le_trans hS.1 h)
/-- nothing is thrown out of a method -/
abbrev noX (A : Nat → Prop) : String → State → State → Prop := vx_X (fun _ : Unit => True) (fun _ _ _ => False) A
theorem hmet_mk {l : Launch} {y : MethodName} {ws ws' : List Cond} {rm : Room} {cc : ByteArray} {maxL : Nat} {ret : Option FieldType} {hh : List (Nat × Nat × Nat × Nat)} {av : List Value} {B : State → Prop} {Qc : Array Value → State → Outcome → State → Prop} {XC : String → State → State → Prop} {mc ms : Nat} {free : Addr → Prop}
    (hy : plainName y.cls = true) (hw : ws = Cond.codeWith y cc maxL ret hh :: ws') (hlen : Nat.ble (lg_sl av).length maxL = true)
    (body : ∀ (p : Program) (e : Env) (s : State) (m : MethodId) (below : List Frame) (meth : Method) (c : Code), CallFix p m c cc maxL s av.toArray ws y.cls → meth.sig.returnType = ret → meth.locks = false → meth.name = y.name → c.exceptionTable.toList = tableOf hh → B s → ∀ ls : Array Slot, lv_has ls maxL (lv_args 0 av) →
      W p l e rm s m av.toArray below meth c s.heap [] 0 0 (vx_MQ below Qc XC av.toArray s mc ms free) (F0 m 0 ls [])) : vx_Met l y ws rm (va_Pc av B) Qc XC mc ms free := by
  refine vx_ofWH (cc := cc) (maxL := maxL) (ret := ret) (hh := hh) hy hw ?_
  intro p e s m args below meth c s₁ B' hml hv
  obtain ⟨rfl, hB⟩ := hv
  have htab := vx_table (x := y) B' (atoms_spec (ws := ws) B'.pre _ (by rw [hw]; exact List.mem_cons_self))
  have hl := lv_entry av (n := maxL) (Nat.le_of_ble_eq_true hlen)
  rw [lg_entry_eq]
  exact body p e s m below meth c ⟨B'.exec, B'.bytes, hml, findClass_of_methodNamed B'.named, atoms_spec (ws := ws) B'.pre⟩ B'.returns B'.notSynchronized (name_of_methodNamed B'.named B'.method).1 htab hB _ hl
theorem xE.cast {A : Nat → Prop} {U : State} (h : xE A U) (i : Nat) {E N : String} {args : Array Value} (hx : xcW[i]? = some (.castable E N)) : (Cond.castable E N).before args U = true := va_Nw.use rfl (h.2.2.1 _ (List.mem_of_getElem? hx))
theorem xE.nc {A : Nat → Prop} {U : State} (h : xE A U) (i : Nat) {x : String × String} (hx : xNc[i]? = some x) : va_Nc x.1 x.2 U := h.2.2.2.2 x (List.mem_of_getElem? hx)
/-- what the helpers lay -/
theorem bI_on {B : Bool} {v : Int32} (h : v = bI B) (q : ¬ v = 0) : (1 : Int64) = (bI B).toInt64 := by
  subst h
  cases B with
  | true => rfl
  | false => exact absurd rfl q
theorem bI_off {B : Bool} {v : Int32} (h : v = bI B) (q : v = 0) : (0 : Int64) = (bI B).toInt64 := by
  rw [← h, q]; rfl
theorem updL_0 (f : Nat → Int64) (v : Int64) : vp_updL f 0 v 0 = v := by simp [vp_updL]
theorem updD_0 (f : Nat → UInt64) (v : UInt64) : vf_upd f 0 v 0 = v := by simp [vf_upd]
