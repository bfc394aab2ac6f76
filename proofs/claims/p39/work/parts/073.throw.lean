/-! exceptions (written by wip/p39/gen_x.py): what the world holds for them, contracts that return or throw -/
abbrev eIO : String := "java/lang/IndexOutOfBoundsException"
abbrev eIA : String := "java/lang/IllegalArgumentException"
abbrev eIS : String := "java/lang/IllegalStateException"
abbrev exNm : List String := ["java/lang/RuntimeException", "java/lang/Exception"]
abbrev xcW : List Cond := [.castable eIO eIO, .castable eIA eIA, .castable eIS eIS, .declares (Bundle.initS "java/lang/RuntimeException"), .declares (Bundle.initS "java/lang/Exception"), .declares (Bundle.initS Bundle.tN)]
abbrev xStr : List (Nat × String) := [(76, "there are 12 features"), (76, "there are 12 features"), (98, "cost or value is not 0 to 1000"), (108, "the kind is not 0 or 1"), (111, "there are 10 constraints"), (119, "there is no such constraint"), (76, "there are 12 features"), (130, "the decision is not 0 to 2"), (138, "the budget is not -1 to 20000"), (242, "there is no such feature"), (244, "the relation is not 0 to 3"), (249, "not a configuration of the features"), (251, "there is no such index")]
abbrev xNc : List (String × String) := []
def xE (A : Nat → Prop) (U : State) : Prop := vx_Zq Bundle.tN "UNASSIGNED_STACK" Bundle.steD A U U.heap ∧ vx_Zq Bundle.tN "SUPPRESSED_SENTINEL" Bundle.listD A U U.heap ∧ (∀ w ∈ xcW, va_Nw w U) ∧ (∀ x ∈ xStr, ∃ sa : Nat, vk_R RX6 x.1 x.2 sa U) ∧ (∀ x ∈ xNc, va_Nc x.1 x.2 U)
theorem xE.to {A B : Nat → Prop} {s U : State} (hW : s.WarmedH U.vm) (hk : ∀ a : Nat, a < s.heap.size → ¬ A a → U.heap[a]? = s.heap[a]?) (hAB : ∀ q, B q → A q) (h : xE A s) : xE B U := by
  obtain ⟨h1, h2, h3, h4, h5⟩ := h
  refine ⟨((h1.moved hW.alike).kept hk).narrow hAB, ((h2.moved hW.alike).kept hk).narrow hAB, ?_, fun x hx => ?_, fun x hx => va_Nc.moved hW.alike (h5 x hx)⟩
  · simp only [List.forall_mem_cons] at h3 ⊢
    obtain ⟨a, b, c, d, e, f, -⟩ := h3
    exact ⟨va_Nw.warmC hW a, va_Nw.warmC hW b, va_Nw.warmC hW c, va_Nw.warmD hW d, va_Nw.warmD hW e, va_Nw.warmD hW f, fun _ q => absurd q List.not_mem_nil⟩
  · obtain ⟨sa, h⟩ := h4 x hx
    exact ⟨sa, vk_R.warm hW h⟩
theorem xE.str {A : Nat → Prop} {U : State} (h : xE A U) (i : Nat) {x : Nat × String} (hx : xStr[i]? = some x) : ∃ sa : Nat, vk_R RX6 x.1 x.2 sa U := h.2.2.2.1 x (List.mem_of_getElem? hx)
/-- what a method that may throw may count on -/
def Wx (G : va_G) (k : Nat → ClassId) (wc : va_W) (sz : Nat) (U : State) : Prop := Wm G k wc sz U ∧ xE (va_A wc sz) U
theorem Wx.blind {G : va_G} {k : Nat → ClassId} {wc : va_W} {sz : Nat} {av : List Value} : FrameBlind (va_Pc av (Wx G k wc sz)) := fun a U g mk h => ⟨h.1, (Wm.blind a U g mk ⟨h.1, h.2.1⟩).2, xE.to (s := U) (State.WarmedH.refl U) (fun _ _ _ => rfl) (fun _ z => z) h.2.2⟩
/-- the world behind a throw -/
def Xm (G : va_G) (k : Nat → ClassId) (A : Nat → Prop) {S : Type} (pX : String → S → Prop) (wout : S → va_W) : String → S → State → Prop := fun E u t => pX E u ∧ Bm G k A wout u t
theorem vmet_mk {l : Launch} {y : MethodName} {ws ws' : List Cond} {rm : Room} {cc : ByteArray} {maxL : Nat} {ret : Option FieldType} {av : List Value} {B : State → Prop} {Qc : Array Value → State → Outcome → State → Prop} {XC : String → State → State → Prop} {mc ms : Nat} {free : Addr → Prop}
    (hy : plainName y.cls = true) (hw : ws = Cond.code y cc maxL ret :: ws') (hlen : Nat.ble (lg_sl av).length maxL = true)
    (body : ∀ (p : Program) (e : Env) (s : State) (m : MethodId) (below : List Frame) (meth : Method) (c : Code), CallFix p m c cc maxL s av.toArray ws y.cls → meth.sig.returnType = ret → meth.locks = false → meth.name = y.name → (∀ x ∈ c.exceptionTable.toList, False) → B s → ∀ ls : Array Slot, lv_has ls maxL (lv_args 0 av) →
      W p l e rm s m av.toArray below meth c s.heap [] 0 0 (vx_MQ below Qc XC av.toArray s mc ms free) (F0 m 0 ls [])) : vx_Met l y ws rm (va_Pc av B) Qc XC mc ms free := by
  refine vx_ofW (cc := cc) (maxL := maxL) (ret := ret) hy hw ?_
  intro p e s m args below meth c s₁ B' hml hno hv
  obtain ⟨rfl, hB⟩ := hv
  have hl := lv_entry av (n := maxL) (Nat.le_of_ble_eq_true hlen)
  rw [lg_entry_eq]
  exact body p e s m below meth c ⟨B'.exec, B'.bytes, hml, findClass_of_methodNamed B'.named, atoms_spec (ws := ws) B'.pre⟩ B'.returns B'.notSynchronized (name_of_methodNamed B'.named B'.method).1 hno hB _ hl

abbrev xatIO : List Cond := vx_atS RX6 92 eIO exNm
theorem xbadIO : ∀ w ∈ xatIO.filter (fun w => !goodWord w), w ∈ xcW := by decide +kernel
theorem xgoodIO : ∀ w ∈ Cond.classLink RX6 88 eIO :: Cond.initialized eIO :: xatIO, vx_ot w = true := by decide +kernel
abbrev xatIA : List Cond := vx_atS RX6 100 eIA exNm
theorem xbadIA : ∀ w ∈ xatIA.filter (fun w => !goodWord w), w ∈ xcW := by decide +kernel
theorem xgoodIA : ∀ w ∈ Cond.classLink RX6 96 eIA :: Cond.initialized eIA :: xatIA, vx_ot w = true := by decide +kernel
abbrev xatIS : List Cond := vx_atS RX6 78 eIS exNm
theorem xbadIS : ∀ w ∈ xatIS.filter (fun w => !goodWord w), w ∈ xcW := by decide +kernel
theorem xgoodIS : ∀ w ∈ Cond.classLink RX6 74 eIS :: Cond.initialized eIS :: xatIS, vx_ot w = true := by decide +kernel
section XENDS
variable {p : Program} {l : Launch} {e : Env} {R : Room} {s : State} {m : MethodId} {args : Array Value} {below : List Frame} {meth : Method} {c : Code} {H : Heap} {locs : List Loc} {cells slots mc ms : Nat} {Q : State → Prop}
variable {cc : ByteArray} {pc : Nat} {ls : Array Slot} {rest : List Value} {G : va_G} {k : Nat → ClassId} {A : Nat → Prop} {ws : va_W} {S : Type} {wout : S → va_W} {pX : String → S → Prop} {Qc : Array Value → State → Outcome → State → Prop}
theorem x_xc {E : String} (u : S) (hA0 : ∀ q, s.heap.size ≤ q → A q) (hP : va_P G vwCl (wout u) H) (hK : va_K G vwCl (tyG k) s) (hD : va_D A (wout u)) (hS : va_S A s.heap H locs) (hp : pX E u) : ∀ t : State, s.vm.Alike t.vm → H.size ≤ t.heap.size → (∀ q : Nat, q < H.size → t.heap[q]? = H[q]?) → vx_X (fun _ : S => True) (Xm G k A pX wout) A E s t := fun t hvm hz hk =>
  ⟨u, trivial, ⟨hp, hP.kept (fun k q hq => hk q.1 (vx_lt hP hq)), va_K.moved hvm hK, hD⟩, Nat.le_trans hS.1 hz, fun q h1 h2 => (hk q (Nat.lt_of_lt_of_le h1 hS.1)).trans (hS.2.1 q h1 h2)⟩
/-- an exception made here, with a string constant, leaves the method -/
theorem x_throw {E : String} {ik ic is : Nat} {tx : String} {Ts : List Cond} (i : Nat) (u : S) (hx : p.tables.exec = Jvm.exec) (hb : c.code = cc) (hl : l.stackTraces = false) (hown : s.vm.findClass RX6 = some m.cls) (hts : ∀ w ∈ Ts, w.before args s = true)
    (hi : xStr[i]? = some (is, tx)) (hfit : Bundle.fit E = true) (hm1 : Cond.classLink RX6 ik E ∈ Ts) (hm2 : Cond.initialized E ∈ Ts) (hm3 : ∀ w ∈ (vx_atS RX6 ic E exNm).filter goodWord, w ∈ Ts) (hbad : ∀ w ∈ (vx_atS RX6 ic E exNm).filter (fun w => !goodWord w), w ∈ xcW)
    (hgood : ∀ w ∈ Cond.classLink RX6 ik E :: Cond.initialized E :: vx_atS RX6 ic E exNm, vx_ot w = true) (hE : xE A s) (hA0 : ∀ q, s.heap.size ≤ q → A q) (hP : va_P G vwCl (wout u) H) (hK : va_K G vwCl (tyG k) s) (hD : va_D A (wout u)) (hS : va_S A s.heap H locs) (hsize : ls.size = c.maxLocals) (hno : ∀ x ∈ c.exceptionTable.toList, False) (hlk : meth.locks = false)
    (d0 : decode cc pc = .ok (.new ik, 3)) (d3 : decode cc (pc + 3) = .ok (.dup, 1)) (d4 : decode cc (pc + 4) = .ok (.ldc is, 2)) (d6 : decode cc (pc + 6) = .ok (.invokespecial ic, 3)) (d9 : decode cc (pc + 9) = .ok (.athrow, 1))
    (hR1 : 6 ≤ R.frames) (hR2 : (rest.map fun v => v.category).sum + 82 ≤ R.locals) (hR3 : cells + 1 ≤ R.cells) (hR4 : slots + 6 ≤ R.slots) (hc : cells + 1 ≤ mc) (hs : slots + 6 ≤ ms) (hp : pX E u) :
    W p l e R s m args below meth c H locs cells slots (vx_MQ below Qc (vx_X (fun _ : S => True) (Xm G k A pX wout) A) args s mc ms A) (F0 m pc ls rest) := by
  obtain ⟨sa, hstr⟩ := hE.str i hi
  exact vx_throwS (names := exNm) hx hb hl hown hfit (by decide +kernel) (hts _ hm1) (hts _ hm2) hstr (vx_hat (fun w h => hts w (hm3 w h)) hbad (fun w h => va_Nw.use (by simp only [List.mem_cons, List.not_mem_nil, or_false] at h; rcases h with rfl | rfl | rfl | rfl | rfl | rfl <;> rfl) (hE.2.2.1 w h))) hgood hE.1 hE.2.1 hS hsize d0 d3 d4 d6 d9 (fun x h => (hno x h).elim) (by show 2 + 3 < R.frames; omega) (by show _ + (13 * (2 + 1) + 43) ≤ R.locals; omega) hR3 hR4 hlk (x_xc u hA0 hP hK hD hS hp) hS.2.2 hc hs
/-- an exception of a callee leaves this method too -/
theorem x_out {E : String} {ce : Cell} {q : Addr} (u : S) (hA0 : ∀ q, s.heap.size ≤ q → A q) (hP : va_P G vwCl (wout u) H) (hK : va_K G vwCl (tyG k) s) (hD : va_D A (wout u)) (hS : va_S A s.heap H locs) (hno : ∀ x ∈ c.exceptionTable.toList, False) (hlk : meth.locks = false) (hcell : H[q]? = some ce) (hv : ce.vm = .none) (hcl : s.vm.findClass E = some ce.cls) (hc : cells ≤ mc) (hs : slots ≤ ms) (hp : pX E u) :
    vx_W p l e R s m args below meth c H locs cells slots (vx_MQ below Qc (vx_X (fun _ : S => True) (Xm G k A pX wout) A) args s mc ms A) (F0 m pc ls rest) q :=
  vx_out (fun x h => (hno x h).elim) hlk hcell hv hcl (fun t ht hvm => x_xc u hA0 hP hK hD hS hp t hvm (by rw [ht]; exact Nat.le_refl _) (fun q _ => by rw [ht])) hS.2.2 hc hs
end XENDS
section XCALLS
variable {p : Program} {l : Launch} {e : Env} {R : Room} {s : State} {m : MethodId} {args : Array Value} {below : List Frame} {meth : Method} {c : Code} {H : Heap} {locs : List Loc} {cells slots mc ms : Nat} {Q : State → Prop}
variable {cc : ByteArray} {pc nL : Nat} {ls : Array Slot} {rest st0 : List Value} {G : va_G} {k : Nat → ClassId} {A : Nat → Prop} {ws wc : va_W} {S SX : Type} {wout wn : S → va_W} {woutX wnX : SX → va_W} {pX : String → SX → Prop}
variable {y : MethodName} {bytes : ByteArray} {maxL n index : Nat} {ret : Option FieldType} {wy wy' : List Cond} {rm : Room} {Ts : List Cond} {own C host : String} {b : Addr} {As : List Value}

theorem xV_i {post : Int32 → S → Prop} (S9 : CallFix p m c cc nL s args Ts own) (hP : va_P G vwCl ws H) (hK : va_K G vwCl (tyG k) s) (hN : gN s) (hE : xE A s) (hD : va_D A ws) (hS : va_S A s.heap H locs) (hA : ∀ q, s.heap.size ≤ q → A q)
    (hM : vx_Met l y wy rm (va_Pc (.ref b :: As) (Wx G k wc H.size)) (va_Qi post (Bm G k (va_A wc H.size) wout) (va_A wc H.size)) (vx_X (fun _ : SX => True) (Xm G k (va_A wc H.size) pX woutX) (va_A wc H.size)) mc ms (va_A wc H.size)) (hG : GoodIn Ts (wsV own index C y wy)) (hw : wy = Cond.code y bytes maxL ret :: wy') (hrc : rm.cells = mc) (hrs : rm.slots = ms) (hd : y.cls = C ∧ y.cls ≠ "java/lang/invoke/MethodHandle" ∧ y.cls ≠ "java/lang/invoke/VarHandle" ∧ (parseMethodDescriptor y.desc).map (fun d => d.parameters.length) = some n) (hR1 : Nat.ble (rm.frames + 1) R.frames = true) (hR2 : Nat.ble (8 + (maxL + 11) + rm.locals) R.locals = true)
    (isC isR perm : List Nat) (hC0 : isC.filterMap (fun i => ws[i]?) = wc) (hC : isC.map (fun i => ws[i]?) = wc.map some) (hC2 : va_nd isC = true) (hR : isR.map (fun i => ws[i]?) = (isR.filterMap (fun i => ws[i]?)).map some) (hR3 : va_nd isR = true) (hdis : ∀ i ∈ isR, i ∉ isC)
    (q1 : ∀ u, perm.filterMap (fun i => ((isR.filterMap (fun i => ws[i]?)) ++ wout u)[i]?) = wn u) (q2 : ∀ u, perm.map (fun i => ((isR.filterMap (fun i => ws[i]?)) ++ wout u)[i]?) = (wn u).map some) (q1x : ∀ u, perm.filterMap (fun i => ((isR.filterMap (fun i => ws[i]?)) ++ woutX u)[i]?) = wnX u) (q2x : ∀ u, perm.map (fun i => ((isR.filterMap (fun i => ws[i]?)) ++ woutX u)[i]?) = (wnX u).map some) (q3 : va_nd perm = true) (ci q0 : Nat) {fs : List Value} {x : vw_C} (hc : vwCl[ci]? = some x) (hx1 : x.1 = C) (he : wc[q0]? = some (b, .inr (ci, fs)))
    (hn : As.length = n) (hl : ls.size = nL) (hst : st0 = As.reverse ++ .ref b :: rest) (hrest : Nat.ble ((rest.map fun v => v.category).sum) 8 = true) (hf : cells + mc ≤ R.cells ∧ slots + ms ≤ R.slots) (hdg : decode cc pc = .ok (.invokevirtual index, 3))
    (kx : ∀ (E : String) (ce : Cell) (q9 : Addr) (u : SX) (H1 : Heap) (locs1 : List Loc), pX E u → va_P G vwCl (wnX u) H1 → va_D A (wnX u) → va_S A s.heap H1 locs1 → H1[q9]? = some ce → ce.vm = .none → s.vm.findClass E = some ce.cls → vx_W p l e R s m args below meth c H1 locs1 (cells + mc) (slots + ms) Q (F0 m pc ls rest) q9)
    (kk : ∀ (r : Int32) (u : S) (H1 : Heap) (locs1 : List Loc), post r u → va_P G vwCl (wn u) H1 → va_D A (wn u) → va_S A s.heap H1 locs1 → W p l e R s m args below meth c H1 locs1 (cells + mc) (slots + ms) Q (F0 m (pc + 3) ls (.int r :: rest))) : W p l e R s m args below meth c H locs cells slots Q (F0 m pc ls st0) := by
  have hPc := hP.sub isC hC0
  have hDc := hD.sub isC hC2 hC
  have hFc := va_free (wc := wc) hD hS hA isC hC
  refine vx_calli (vx_runV (As := As) (rest := rest) S9 hM (cwV n S9.2.2.2.2 hG hw hrc hrs hd ⟨Nat.le_of_ble_eq_true hR1, Nat.le_of_ble_eq_true hR2⟩) ⟨Wx.blind, (by rw [← hx1]; exact va_recv hK hPc hc he), fun U hU hW => ⟨rfl, ⟨(by rw [hU]), (by rw [hU]; exact hPc), va_K.moved hW.alike hK, gN.warm hW hN, hDc.weaken (fun _ _ _ _ => trivial)⟩, xE.to hW (fun a h1 h2 => by rw [hU]; exact hS.2.1 a h1 h2) hFc hE⟩⟩ rfl hn hl hst (lv_room (Nat.le_of_ble_eq_true hrest)) hdg hf) hS (fun q _ h => hFc q h) hFc (fun q _ h => hFc q h) (fun E ce q9 u t H1 locs1 ht hvm hpx hB hz1 hk1 hS1 c1 c2 c3 => ?_) (fun r u t H1 locs1 ht hvm hw9 hB hz1 hk1 hS1 => ?_)
  · obtain ⟨hp9, hP1, hK1, hD1⟩ := hB
    rw [ht] at hP1
    obtain ⟨a1, a2⟩ := w_call hP hD isC isR perm hC hR hR3 hdis hk1 hFc hP1 hD1 (q1x u) (q2x u) q3
    exact kx E ce q9 u H1 locs1 hp9 a1 a2 hS1 c1 c2 c3
  · obtain ⟨hP1, hK1, hD1⟩ := hB
    rw [ht] at hP1
    obtain ⟨a1, a2⟩ := w_call hP hD isC isR perm hC hR hR3 hdis hk1 hFc hP1 hD1 (q1 u) (q2 u) q3
    exact kk r u H1 locs1 hw9 a1 a2 hS1
theorem xV_d {post : UInt64 → S → Prop} (S9 : CallFix p m c cc nL s args Ts own) (hP : va_P G vwCl ws H) (hK : va_K G vwCl (tyG k) s) (hN : gN s) (hE : xE A s) (hD : va_D A ws) (hS : va_S A s.heap H locs) (hA : ∀ q, s.heap.size ≤ q → A q)
    (hM : vx_Met l y wy rm (va_Pc (.ref b :: As) (Wx G k wc H.size)) (va_Qd post (Bm G k (va_A wc H.size) wout) (va_A wc H.size)) (vx_X (fun _ : SX => True) (Xm G k (va_A wc H.size) pX woutX) (va_A wc H.size)) mc ms (va_A wc H.size)) (hG : GoodIn Ts (wsV own index C y wy)) (hw : wy = Cond.code y bytes maxL ret :: wy') (hrc : rm.cells = mc) (hrs : rm.slots = ms) (hd : y.cls = C ∧ y.cls ≠ "java/lang/invoke/MethodHandle" ∧ y.cls ≠ "java/lang/invoke/VarHandle" ∧ (parseMethodDescriptor y.desc).map (fun d => d.parameters.length) = some n) (hR1 : Nat.ble (rm.frames + 1) R.frames = true) (hR2 : Nat.ble (8 + (maxL + 11) + rm.locals) R.locals = true)
    (isC isR perm : List Nat) (hC0 : isC.filterMap (fun i => ws[i]?) = wc) (hC : isC.map (fun i => ws[i]?) = wc.map some) (hC2 : va_nd isC = true) (hR : isR.map (fun i => ws[i]?) = (isR.filterMap (fun i => ws[i]?)).map some) (hR3 : va_nd isR = true) (hdis : ∀ i ∈ isR, i ∉ isC)
    (q1 : ∀ u, perm.filterMap (fun i => ((isR.filterMap (fun i => ws[i]?)) ++ wout u)[i]?) = wn u) (q2 : ∀ u, perm.map (fun i => ((isR.filterMap (fun i => ws[i]?)) ++ wout u)[i]?) = (wn u).map some) (q1x : ∀ u, perm.filterMap (fun i => ((isR.filterMap (fun i => ws[i]?)) ++ woutX u)[i]?) = wnX u) (q2x : ∀ u, perm.map (fun i => ((isR.filterMap (fun i => ws[i]?)) ++ woutX u)[i]?) = (wnX u).map some) (q3 : va_nd perm = true) (ci q0 : Nat) {fs : List Value} {x : vw_C} (hc : vwCl[ci]? = some x) (hx1 : x.1 = C) (he : wc[q0]? = some (b, .inr (ci, fs)))
    (hn : As.length = n) (hl : ls.size = nL) (hst : st0 = As.reverse ++ .ref b :: rest) (hrest : Nat.ble ((rest.map fun v => v.category).sum) 8 = true) (hf : cells + mc ≤ R.cells ∧ slots + ms ≤ R.slots) (hdg : decode cc pc = .ok (.invokevirtual index, 3))
    (kx : ∀ (E : String) (ce : Cell) (q9 : Addr) (u : SX) (H1 : Heap) (locs1 : List Loc), pX E u → va_P G vwCl (wnX u) H1 → va_D A (wnX u) → va_S A s.heap H1 locs1 → H1[q9]? = some ce → ce.vm = .none → s.vm.findClass E = some ce.cls → vx_W p l e R s m args below meth c H1 locs1 (cells + mc) (slots + ms) Q (F0 m pc ls rest) q9)
    (kk : ∀ (r : UInt64) (u : S) (H1 : Heap) (locs1 : List Loc), post r u → va_P G vwCl (wn u) H1 → va_D A (wn u) → va_S A s.heap H1 locs1 → W p l e R s m args below meth c H1 locs1 (cells + mc) (slots + ms) Q (F0 m (pc + 3) ls (.double r :: rest))) : W p l e R s m args below meth c H locs cells slots Q (F0 m pc ls st0) := by
  have hPc := hP.sub isC hC0
  have hDc := hD.sub isC hC2 hC
  have hFc := va_free (wc := wc) hD hS hA isC hC
  refine vx_calld (vx_runV (As := As) (rest := rest) S9 hM (cwV n S9.2.2.2.2 hG hw hrc hrs hd ⟨Nat.le_of_ble_eq_true hR1, Nat.le_of_ble_eq_true hR2⟩) ⟨Wx.blind, (by rw [← hx1]; exact va_recv hK hPc hc he), fun U hU hW => ⟨rfl, ⟨(by rw [hU]), (by rw [hU]; exact hPc), va_K.moved hW.alike hK, gN.warm hW hN, hDc.weaken (fun _ _ _ _ => trivial)⟩, xE.to hW (fun a h1 h2 => by rw [hU]; exact hS.2.1 a h1 h2) hFc hE⟩⟩ rfl hn hl hst (lv_room (Nat.le_of_ble_eq_true hrest)) hdg hf) hS (fun q _ h => hFc q h) hFc (fun q _ h => hFc q h) (fun E ce q9 u t H1 locs1 ht hvm hpx hB hz1 hk1 hS1 c1 c2 c3 => ?_) (fun r u t H1 locs1 ht hvm hw9 hB hz1 hk1 hS1 => ?_)
  · obtain ⟨hp9, hP1, hK1, hD1⟩ := hB
    rw [ht] at hP1
    obtain ⟨a1, a2⟩ := w_call hP hD isC isR perm hC hR hR3 hdis hk1 hFc hP1 hD1 (q1x u) (q2x u) q3
    exact kx E ce q9 u H1 locs1 hp9 a1 a2 hS1 c1 c2 c3
  · obtain ⟨hP1, hK1, hD1⟩ := hB
    rw [ht] at hP1
    obtain ⟨a1, a2⟩ := w_call hP hD isC isR perm hC hR hR3 hdis hk1 hFc hP1 hD1 (q1 u) (q2 u) q3
    exact kk r u H1 locs1 hw9 a1 a2 hS1
theorem xV_v {post : S → Prop} (S9 : CallFix p m c cc nL s args Ts own) (hP : va_P G vwCl ws H) (hK : va_K G vwCl (tyG k) s) (hN : gN s) (hE : xE A s) (hD : va_D A ws) (hS : va_S A s.heap H locs) (hA : ∀ q, s.heap.size ≤ q → A q)
    (hM : vx_Met l y wy rm (va_Pc (.ref b :: As) (Wx G k wc H.size)) (va_Qv post (Bm G k (va_A wc H.size) wout) (va_A wc H.size)) (vx_X (fun _ : SX => True) (Xm G k (va_A wc H.size) pX woutX) (va_A wc H.size)) mc ms (va_A wc H.size)) (hG : GoodIn Ts (wsV own index C y wy)) (hw : wy = Cond.code y bytes maxL ret :: wy') (hrc : rm.cells = mc) (hrs : rm.slots = ms) (hd : y.cls = C ∧ y.cls ≠ "java/lang/invoke/MethodHandle" ∧ y.cls ≠ "java/lang/invoke/VarHandle" ∧ (parseMethodDescriptor y.desc).map (fun d => d.parameters.length) = some n) (hR1 : Nat.ble (rm.frames + 1) R.frames = true) (hR2 : Nat.ble (8 + (maxL + 11) + rm.locals) R.locals = true)
    (isC isR perm : List Nat) (hC0 : isC.filterMap (fun i => ws[i]?) = wc) (hC : isC.map (fun i => ws[i]?) = wc.map some) (hC2 : va_nd isC = true) (hR : isR.map (fun i => ws[i]?) = (isR.filterMap (fun i => ws[i]?)).map some) (hR3 : va_nd isR = true) (hdis : ∀ i ∈ isR, i ∉ isC)
    (q1 : ∀ u, perm.filterMap (fun i => ((isR.filterMap (fun i => ws[i]?)) ++ wout u)[i]?) = wn u) (q2 : ∀ u, perm.map (fun i => ((isR.filterMap (fun i => ws[i]?)) ++ wout u)[i]?) = (wn u).map some) (q1x : ∀ u, perm.filterMap (fun i => ((isR.filterMap (fun i => ws[i]?)) ++ woutX u)[i]?) = wnX u) (q2x : ∀ u, perm.map (fun i => ((isR.filterMap (fun i => ws[i]?)) ++ woutX u)[i]?) = (wnX u).map some) (q3 : va_nd perm = true) (ci q0 : Nat) {fs : List Value} {x : vw_C} (hc : vwCl[ci]? = some x) (hx1 : x.1 = C) (he : wc[q0]? = some (b, .inr (ci, fs)))
    (hn : As.length = n) (hl : ls.size = nL) (hst : st0 = As.reverse ++ .ref b :: rest) (hrest : Nat.ble ((rest.map fun v => v.category).sum) 8 = true) (hf : cells + mc ≤ R.cells ∧ slots + ms ≤ R.slots) (hdg : decode cc pc = .ok (.invokevirtual index, 3))
    (kx : ∀ (E : String) (ce : Cell) (q9 : Addr) (u : SX) (H1 : Heap) (locs1 : List Loc), pX E u → va_P G vwCl (wnX u) H1 → va_D A (wnX u) → va_S A s.heap H1 locs1 → H1[q9]? = some ce → ce.vm = .none → s.vm.findClass E = some ce.cls → vx_W p l e R s m args below meth c H1 locs1 (cells + mc) (slots + ms) Q (F0 m pc ls rest) q9)
    (kk : ∀ (u : S) (H1 : Heap) (locs1 : List Loc), post u → va_P G vwCl (wn u) H1 → va_D A (wn u) → va_S A s.heap H1 locs1 → W p l e R s m args below meth c H1 locs1 (cells + mc) (slots + ms) Q (F0 m (pc + 3) ls rest)) : W p l e R s m args below meth c H locs cells slots Q (F0 m pc ls st0) := by
  have hPc := hP.sub isC hC0
  have hDc := hD.sub isC hC2 hC
  have hFc := va_free (wc := wc) hD hS hA isC hC
  refine vx_callv (vx_runV (As := As) (rest := rest) S9 hM (cwV n S9.2.2.2.2 hG hw hrc hrs hd ⟨Nat.le_of_ble_eq_true hR1, Nat.le_of_ble_eq_true hR2⟩) ⟨Wx.blind, (by rw [← hx1]; exact va_recv hK hPc hc he), fun U hU hW => ⟨rfl, ⟨(by rw [hU]), (by rw [hU]; exact hPc), va_K.moved hW.alike hK, gN.warm hW hN, hDc.weaken (fun _ _ _ _ => trivial)⟩, xE.to hW (fun a h1 h2 => by rw [hU]; exact hS.2.1 a h1 h2) hFc hE⟩⟩ rfl hn hl hst (lv_room (Nat.le_of_ble_eq_true hrest)) hdg hf) hS (fun q _ h => hFc q h) hFc (fun q _ h => hFc q h) (fun E ce q9 u t H1 locs1 ht hvm hpx hB hz1 hk1 hS1 c1 c2 c3 => ?_) (fun u t H1 locs1 ht hvm hw9 hB hz1 hk1 hS1 => ?_)
  · obtain ⟨hp9, hP1, hK1, hD1⟩ := hB
    rw [ht] at hP1
    obtain ⟨a1, a2⟩ := w_call hP hD isC isR perm hC hR hR3 hdis hk1 hFc hP1 hD1 (q1x u) (q2x u) q3
    exact kx E ce q9 u H1 locs1 hp9 a1 a2 hS1 c1 c2 c3
  · obtain ⟨hP1, hK1, hD1⟩ := hB
    rw [ht] at hP1
    obtain ⟨a1, a2⟩ := w_call hP hD isC isR perm hC hR hR3 hdis hk1 hFc hP1 hD1 (q1 u) (q2 u) q3
    exact kk u H1 locs1 hw9 a1 a2 hS1
theorem xS_i {post : Int32 → S → Prop} (S9 : CallFix p m c cc nL s args Ts own) (hP : va_P G vwCl ws H) (hK : va_K G vwCl (tyG k) s) (hN : gN s) (hE : xE A s) (hD : va_D A ws) (hS : va_S A s.heap H locs) (hA : ∀ q, s.heap.size ≤ q → A q)
    (hM : vx_Met l y wy rm (va_Pc As (Wx G k wc H.size)) (va_Qi post (Bm G k (va_A wc H.size) wout) (va_A wc H.size)) (vx_X (fun _ : SX => True) (Xm G k (va_A wc H.size) pX woutX) (va_A wc H.size)) mc ms (va_A wc H.size)) (hG : GoodIn Ts (va_wsS own index y wy)) (hw : wy = Cond.code y bytes maxL ret :: wy') (hrc : rm.cells = mc) (hrs : rm.slots = ms) (hd : y.cls ≠ "java/lang/invoke/MethodHandle" ∧ y.cls ≠ "java/lang/invoke/VarHandle" ∧ (parseMethodDescriptor y.desc).map (fun d => d.parameters.length) = some n) (hR1 : Nat.ble (rm.frames + 1) R.frames = true) (hR2 : Nat.ble (8 + (maxL + 11) + rm.locals) R.locals = true)
    (isC isR perm : List Nat) (hC0 : isC.filterMap (fun i => ws[i]?) = wc) (hC : isC.map (fun i => ws[i]?) = wc.map some) (hC2 : va_nd isC = true) (hR : isR.map (fun i => ws[i]?) = (isR.filterMap (fun i => ws[i]?)).map some) (hR3 : va_nd isR = true) (hdis : ∀ i ∈ isR, i ∉ isC)
    (q1 : ∀ u, perm.filterMap (fun i => ((isR.filterMap (fun i => ws[i]?)) ++ wout u)[i]?) = wn u) (q2 : ∀ u, perm.map (fun i => ((isR.filterMap (fun i => ws[i]?)) ++ wout u)[i]?) = (wn u).map some) (q1x : ∀ u, perm.filterMap (fun i => ((isR.filterMap (fun i => ws[i]?)) ++ woutX u)[i]?) = wnX u) (q2x : ∀ u, perm.map (fun i => ((isR.filterMap (fun i => ws[i]?)) ++ woutX u)[i]?) = (wnX u).map some) (q3 : va_nd perm = true) 
    (hn : As.length = n) (hl : ls.size = nL) (hst : st0 = As.reverse ++ rest) (hrest : Nat.ble ((rest.map fun v => v.category).sum) 8 = true) (hf : cells + mc ≤ R.cells ∧ slots + ms ≤ R.slots) (hdg : decode cc pc = .ok (.invokestatic index, 3))
    (kx : ∀ (E : String) (ce : Cell) (q9 : Addr) (u : SX) (H1 : Heap) (locs1 : List Loc), pX E u → va_P G vwCl (wnX u) H1 → va_D A (wnX u) → va_S A s.heap H1 locs1 → H1[q9]? = some ce → ce.vm = .none → s.vm.findClass E = some ce.cls → vx_W p l e R s m args below meth c H1 locs1 (cells + mc) (slots + ms) Q (F0 m pc ls rest) q9)
    (kk : ∀ (r : Int32) (u : S) (H1 : Heap) (locs1 : List Loc), post r u → va_P G vwCl (wn u) H1 → va_D A (wn u) → va_S A s.heap H1 locs1 → W p l e R s m args below meth c H1 locs1 (cells + mc) (slots + ms) Q (F0 m (pc + 3) ls (.int r :: rest))) : W p l e R s m args below meth c H locs cells slots Q (F0 m pc ls st0) := by
  have hPc := hP.sub isC hC0
  have hDc := hD.sub isC hC2 hC
  have hFc := va_free (wc := wc) hD hS hA isC hC
  refine vx_calli (vx_runS (As := As) (rest := rest) S9 hM (va_cwS n S9.2.2.2.2 hG hw hrc hrs hd ⟨Nat.le_of_ble_eq_true hR1, Nat.le_of_ble_eq_true hR2⟩) ⟨Wx.blind, fun U hU hW => ⟨rfl, ⟨(by rw [hU]), (by rw [hU]; exact hPc), va_K.moved hW.alike hK, gN.warm hW hN, hDc.weaken (fun _ _ _ _ => trivial)⟩, xE.to hW (fun a h1 h2 => by rw [hU]; exact hS.2.1 a h1 h2) hFc hE⟩⟩ rfl hn hl hst (lv_room (Nat.le_of_ble_eq_true hrest)) hdg hf) hS (fun q _ h => hFc q h) hFc (fun q _ h => hFc q h) (fun E ce q9 u t H1 locs1 ht hvm hpx hB hz1 hk1 hS1 c1 c2 c3 => ?_) (fun r u t H1 locs1 ht hvm hw9 hB hz1 hk1 hS1 => ?_)
  · obtain ⟨hp9, hP1, hK1, hD1⟩ := hB
    rw [ht] at hP1
    obtain ⟨a1, a2⟩ := w_call hP hD isC isR perm hC hR hR3 hdis hk1 hFc hP1 hD1 (q1x u) (q2x u) q3
    exact kx E ce q9 u H1 locs1 hp9 a1 a2 hS1 c1 c2 c3
  · obtain ⟨hP1, hK1, hD1⟩ := hB
    rw [ht] at hP1
    obtain ⟨a1, a2⟩ := w_call hP hD isC isR perm hC hR hR3 hdis hk1 hFc hP1 hD1 (q1 u) (q2 u) q3
    exact kk r u H1 locs1 hw9 a1 a2 hS1
theorem xS_v {post : S → Prop} (S9 : CallFix p m c cc nL s args Ts own) (hP : va_P G vwCl ws H) (hK : va_K G vwCl (tyG k) s) (hN : gN s) (hE : xE A s) (hD : va_D A ws) (hS : va_S A s.heap H locs) (hA : ∀ q, s.heap.size ≤ q → A q)
    (hM : vx_Met l y wy rm (va_Pc As (Wx G k wc H.size)) (va_Qv post (Bm G k (va_A wc H.size) wout) (va_A wc H.size)) (vx_X (fun _ : SX => True) (Xm G k (va_A wc H.size) pX woutX) (va_A wc H.size)) mc ms (va_A wc H.size)) (hG : GoodIn Ts (va_wsS own index y wy)) (hw : wy = Cond.code y bytes maxL ret :: wy') (hrc : rm.cells = mc) (hrs : rm.slots = ms) (hd : y.cls ≠ "java/lang/invoke/MethodHandle" ∧ y.cls ≠ "java/lang/invoke/VarHandle" ∧ (parseMethodDescriptor y.desc).map (fun d => d.parameters.length) = some n) (hR1 : Nat.ble (rm.frames + 1) R.frames = true) (hR2 : Nat.ble (8 + (maxL + 11) + rm.locals) R.locals = true)
    (isC isR perm : List Nat) (hC0 : isC.filterMap (fun i => ws[i]?) = wc) (hC : isC.map (fun i => ws[i]?) = wc.map some) (hC2 : va_nd isC = true) (hR : isR.map (fun i => ws[i]?) = (isR.filterMap (fun i => ws[i]?)).map some) (hR3 : va_nd isR = true) (hdis : ∀ i ∈ isR, i ∉ isC)
    (q1 : ∀ u, perm.filterMap (fun i => ((isR.filterMap (fun i => ws[i]?)) ++ wout u)[i]?) = wn u) (q2 : ∀ u, perm.map (fun i => ((isR.filterMap (fun i => ws[i]?)) ++ wout u)[i]?) = (wn u).map some) (q1x : ∀ u, perm.filterMap (fun i => ((isR.filterMap (fun i => ws[i]?)) ++ woutX u)[i]?) = wnX u) (q2x : ∀ u, perm.map (fun i => ((isR.filterMap (fun i => ws[i]?)) ++ woutX u)[i]?) = (wnX u).map some) (q3 : va_nd perm = true) 
    (hn : As.length = n) (hl : ls.size = nL) (hst : st0 = As.reverse ++ rest) (hrest : Nat.ble ((rest.map fun v => v.category).sum) 8 = true) (hf : cells + mc ≤ R.cells ∧ slots + ms ≤ R.slots) (hdg : decode cc pc = .ok (.invokestatic index, 3))
    (kx : ∀ (E : String) (ce : Cell) (q9 : Addr) (u : SX) (H1 : Heap) (locs1 : List Loc), pX E u → va_P G vwCl (wnX u) H1 → va_D A (wnX u) → va_S A s.heap H1 locs1 → H1[q9]? = some ce → ce.vm = .none → s.vm.findClass E = some ce.cls → vx_W p l e R s m args below meth c H1 locs1 (cells + mc) (slots + ms) Q (F0 m pc ls rest) q9)
    (kk : ∀ (u : S) (H1 : Heap) (locs1 : List Loc), post u → va_P G vwCl (wn u) H1 → va_D A (wn u) → va_S A s.heap H1 locs1 → W p l e R s m args below meth c H1 locs1 (cells + mc) (slots + ms) Q (F0 m (pc + 3) ls rest)) : W p l e R s m args below meth c H locs cells slots Q (F0 m pc ls st0) := by
  have hPc := hP.sub isC hC0
  have hDc := hD.sub isC hC2 hC
  have hFc := va_free (wc := wc) hD hS hA isC hC
  refine vx_callv (vx_runS (As := As) (rest := rest) S9 hM (va_cwS n S9.2.2.2.2 hG hw hrc hrs hd ⟨Nat.le_of_ble_eq_true hR1, Nat.le_of_ble_eq_true hR2⟩) ⟨Wx.blind, fun U hU hW => ⟨rfl, ⟨(by rw [hU]), (by rw [hU]; exact hPc), va_K.moved hW.alike hK, gN.warm hW hN, hDc.weaken (fun _ _ _ _ => trivial)⟩, xE.to hW (fun a h1 h2 => by rw [hU]; exact hS.2.1 a h1 h2) hFc hE⟩⟩ rfl hn hl hst (lv_room (Nat.le_of_ble_eq_true hrest)) hdg hf) hS (fun q _ h => hFc q h) hFc (fun q _ h => hFc q h) (fun E ce q9 u t H1 locs1 ht hvm hpx hB hz1 hk1 hS1 c1 c2 c3 => ?_) (fun u t H1 locs1 ht hvm hw9 hB hz1 hk1 hS1 => ?_)
  · obtain ⟨hp9, hP1, hK1, hD1⟩ := hB
    rw [ht] at hP1
    obtain ⟨a1, a2⟩ := w_call hP hD isC isR perm hC hR hR3 hdis hk1 hFc hP1 hD1 (q1x u) (q2x u) q3
    exact kx E ce q9 u H1 locs1 hp9 a1 a2 hS1 c1 c2 c3
  · obtain ⟨hP1, hK1, hD1⟩ := hB
    rw [ht] at hP1
    obtain ⟨a1, a2⟩ := w_call hP hD isC isR perm hC hR hR3 hdis hk1 hFc hP1 hD1 (q1 u) (q2 u) q3
    exact kk u H1 locs1 hw9 a1 a2 hS1
end XCALLS
