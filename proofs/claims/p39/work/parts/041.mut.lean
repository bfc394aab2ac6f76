/-! methods that write their world (written by wip/p39/gen_mut.py) -/
/-- what a method that writes may count on -/
def Wm (G : va_G) (k : Nat → ClassId) (wc : va_W) (sz : Nat) (U : State) : Prop := U.heap.size = sz ∧ va_P G vwCl wc U.heap ∧ va_K G vwCl (tyG k) U ∧ gN U ∧ va_D (fun _ => True) wc
theorem Wm.blind {G : va_G} {k : Nat → ClassId} {wc : va_W} {sz : Nat} {av : List Value} : FrameBlind (va_Pc av (Wm G k wc sz)) := fun _ U _ _ h => ⟨h.1, h.2.1, h.2.2.1, va_K.moved (u := U) (Vm.Alike.refl U.vm) h.2.2.2.1, gN.same (u := U) rfl h.2.2.2.2.1, h.2.2.2.2.2⟩
/-- the world behind it -/
def Bm (G : va_G) (k : Nat → ClassId) (A : Nat → Prop) {S : Type} (wout : S → va_W) : S → State → Prop := fun u t => va_P G vwCl (wout u) t.heap ∧ va_K G vwCl (tyG k) t ∧ va_D A (wout u)
theorem w_call {G : va_G} {A : Nat → Prop} {ws wc w1 wn : va_W} {H H1 : Heap} (hP : va_P G vwCl ws H) (hD : va_D A ws) (isC isR perm : List Nat) (hC : isC.map (fun i => ws[i]?) = wc.map some) (hR : isR.map (fun i => ws[i]?) = (isR.filterMap (fun i => ws[i]?)).map some) (hn : va_nd isR = true) (hdis : ∀ i ∈ isR, i ∉ isC)
    (hk : ∀ q : Nat, q < H.size → ¬ va_A wc H.size q → H1[q]? = H[q]?) (hF : ∀ q, va_A wc H.size q → A q) (hP1 : va_P G vwCl w1 H1) (hD1 : va_D (va_A wc H.size) w1)
    (q1 : perm.filterMap (fun i => ((isR.filterMap (fun i => ws[i]?)) ++ w1)[i]?) = wn) (q2 : perm.map (fun i => ((isR.filterMap (fun i => ws[i]?)) ++ w1)[i]?) = wn.map some) (q3 : va_nd perm = true) : va_P G vwCl wn H1 ∧ va_D A wn := by
  obtain ⟨a, b⟩ := va_join hP hD isC isR hC hR hn hdis hk hF hP1 hD1
  exact ⟨a.sub perm q1, b.sub perm q3 q2⟩
section MENDS
variable {p : Program} {l : Launch} {e : Env} {R : Room} {s : State} {m : MethodId} {args : Array Value} {below : List Frame} {meth : Method} {c : Code} {H : Heap} {locs : List Loc} {mc ms : Nat} {Q : State → Prop}
variable {cc : ByteArray} {pc : Nat} {ls : Array Slot} {G : va_G} {k : Nat → ClassId} {A : Nat → Prop} {S : Type} {wout : S → va_W}
theorem e_mutV {post : S → Prop} (u : S) (hx : p.tables.exec = Jvm.exec) (hb : c.code = cc) (hr : meth.sig.returnType = none) (hlk : meth.locks = false) (hS : va_S A s.heap H locs) (hP : va_P G vwCl (wout u) H) (hK : va_K G vwCl (tyG k) s) (hD : va_D A (wout u)) (hp : post u) (hdg : decode cc pc = .ok (.return_, 1)) :
    W p l e R s m args below meth c H locs mc ms (MQ below (va_Qv post (Bm G k A wout) A) args s mc ms A) (F0 m pc ls []) := W.vret hx hb hr (fun _ ht hW => ⟨⟨u, rfl, hp, by rw [ht]; exact hP, va_K.moved hW.alike hK, hD⟩, hS.F ht⟩) hS.2.2 hdg hlk
theorem e_mutI {post : Int32 → S → Prop} {v : Int32} (u : S) (hx : p.tables.exec = Jvm.exec) (hb : c.code = cc) (hr : meth.sig.returnType = some .int) (hlk : meth.locks = false) (hS : va_S A s.heap H locs) (hP : va_P G vwCl (wout u) H) (hK : va_K G vwCl (tyG k) s) (hD : va_D A (wout u)) (hp : post v u) (hdg : decode cc pc = .ok (.ireturn, 1)) :
    W p l e R s m args below meth c H locs mc ms (MQ below (va_Qi post (Bm G k A wout) A) args s mc ms A) (F0 m pc ls [.int v]) := W.iret hx hb hr (fun _ ht hW => ⟨⟨v, u, rfl, hp, by rw [ht]; exact hP, va_K.moved hW.alike hK, hD⟩, hS.F ht⟩) hS.2.2 hdg hlk
theorem e_mutZ {post : Int32 → S → Prop} {v : Bool} (u : S) (hx : p.tables.exec = Jvm.exec) (hb : c.code = cc) (hr : meth.sig.returnType = some .boolean) (hlk : meth.locks = false) (hS : va_S A s.heap H locs) (hP : va_P G vwCl (wout u) H) (hK : va_K G vwCl (tyG k) s) (hD : va_D A (wout u)) (hp : post (bI v) u) (hdg : decode cc pc = .ok (.ireturn, 1)) :
    W p l e R s m args below meth c H locs mc ms (MQ below (va_Qi post (Bm G k A wout) A) args s mc ms A) (F0 m pc ls [.int (bI v)]) := W.zret hx hb hr (bI_nar v) (fun _ ht hW => ⟨⟨bI v, u, rfl, hp, by rw [ht]; exact hP, va_K.moved hW.alike hK, hD⟩, hS.F ht⟩) hS.2.2 hdg hlk
theorem e_mutL {post : Int64 → S → Prop} {v : Int64} (u : S) (hx : p.tables.exec = Jvm.exec) (hb : c.code = cc) (hr : meth.sig.returnType = some .long) (hlk : meth.locks = false) (hS : va_S A s.heap H locs) (hP : va_P G vwCl (wout u) H) (hK : va_K G vwCl (tyG k) s) (hD : va_D A (wout u)) (hp : post v u) (hdg : decode cc pc = .ok (.lreturn, 1)) :
    W p l e R s m args below meth c H locs mc ms (MQ below (va_Ql post (Bm G k A wout) A) args s mc ms A) (F0 m pc ls [.long v]) := W.lret hx hb hr (fun _ ht hW => ⟨⟨v, u, rfl, hp, by rw [ht]; exact hP, va_K.moved hW.alike hK, hD⟩, hS.F ht⟩) hS.2.2 hdg hlk
theorem e_mutD {post : UInt64 → S → Prop} {v : UInt64} (u : S) (hx : p.tables.exec = Jvm.exec) (hb : c.code = cc) (hr : meth.sig.returnType = some .double) (hlk : meth.locks = false) (hS : va_S A s.heap H locs) (hP : va_P G vwCl (wout u) H) (hK : va_K G vwCl (tyG k) s) (hD : va_D A (wout u)) (hp : post v u) (hdg : decode cc pc = .ok (.dreturn, 1)) :
    W p l e R s m args below meth c H locs mc ms (MQ below (va_Qd post (Bm G k A wout) A) args s mc ms A) (F0 m pc ls [.double v]) := W.dret hx hb hr (fun _ ht hW => ⟨⟨v, u, rfl, hp, by rw [ht]; exact hP, va_K.moved hW.alike hK, hD⟩, hS.F ht⟩) hS.2.2 hdg hlk
end MENDS
section MCALLS
variable {p : Program} {l : Launch} {e : Env} {R : Room} {s : State} {m : MethodId} {args : Array Value} {below : List Frame} {meth : Method} {c : Code} {H : Heap} {locs : List Loc} {cells slots mc ms : Nat} {Q : State → Prop}
variable {cc : ByteArray} {pc nL : Nat} {ls : Array Slot} {rest st0 : List Value} {G : va_G} {k : Nat → ClassId} {A : Nat → Prop} {ws wc : va_W} {S : Type} {wout wn : S → va_W}
variable {y : MethodName} {bytes : ByteArray} {maxL n index : Nat} {ret : Option FieldType} {wy wy' : List Cond} {rm : Room} {Ts : List Cond} {own C host : String} {b : Addr} {As : List Value}
theorem cV_mi {post : Int32 → S → Prop} (S9 : CallFix p m c cc nL s args Ts own) (hP : va_P G vwCl ws H) (hK : va_K G vwCl (tyG k) s) (hN : gN s) (hD : va_D A ws) (hS : va_S A s.heap H locs) (hA : ∀ q, s.heap.size ≤ q → A q)
    (hM : Met l y wy rm (va_Pc (.ref b :: As) (Wm G k wc H.size)) (va_Qi post (Bm G k (va_A wc H.size) wout) (va_A wc H.size)) mc ms (va_A wc H.size)) (hG : GoodIn Ts (wsV own index C y wy)) (hw : wy = Cond.code y bytes maxL ret :: wy') (hrc : rm.cells = mc) (hrs : rm.slots = ms) (hd : y.cls = C ∧ y.cls ≠ "java/lang/invoke/MethodHandle" ∧ y.cls ≠ "java/lang/invoke/VarHandle" ∧ (parseMethodDescriptor y.desc).map (fun d => d.parameters.length) = some n) (hR1 : Nat.ble (rm.frames + 1) R.frames = true) (hR2 : Nat.ble (8 + (maxL + 11) + rm.locals) R.locals = true)
    (isC isR perm : List Nat) (hC0 : isC.filterMap (fun i => ws[i]?) = wc) (hC : isC.map (fun i => ws[i]?) = wc.map some) (hC2 : va_nd isC = true) (hR : isR.map (fun i => ws[i]?) = (isR.filterMap (fun i => ws[i]?)).map some) (hR3 : va_nd isR = true) (hdis : ∀ i ∈ isR, i ∉ isC)
    (q1 : ∀ u, perm.filterMap (fun i => ((isR.filterMap (fun i => ws[i]?)) ++ wout u)[i]?) = wn u) (q2 : ∀ u, perm.map (fun i => ((isR.filterMap (fun i => ws[i]?)) ++ wout u)[i]?) = (wn u).map some) (q3 : va_nd perm = true) (ci q0 : Nat) {fs : List Value} {x : vw_C} (hc : vwCl[ci]? = some x) (hx1 : x.1 = C) (he : wc[q0]? = some (b, .inr (ci, fs)))
    (hn : As.length = n) (hl : ls.size = nL) (hst : st0 = As.reverse ++ .ref b :: rest) (hrest : Nat.ble ((rest.map fun v => v.category).sum) 8 = true) (hf : cells + mc ≤ R.cells ∧ slots + ms ≤ R.slots) (hdg : decode cc pc = .ok (.invokevirtual index, 3))
    (kk : ∀ (r : Int32) (u : S) (H1 : Heap) (locs1 : List Loc), post r u → va_P G vwCl (wn u) H1 → va_D A (wn u) → va_S A s.heap H1 locs1 → W p l e R s m args below meth c H1 locs1 (cells + mc) (slots + ms) Q (F0 m (pc + 3) ls (.int r :: rest))) : W p l e R s m args below meth c H locs cells slots Q (F0 m pc ls st0) := by
  have hPc := hP.sub isC hC0
  have hDc := hD.sub isC hC2 hC
  have hFc := va_free (wc := wc) hD hS hA isC hC
  refine va_calli (va_runV (As := As) (rest := rest) S9 hM (cwV n S9.2.2.2.2 hG hw hrc hrs hd ⟨Nat.le_of_ble_eq_true hR1, Nat.le_of_ble_eq_true hR2⟩) ⟨Wm.blind, (by rw [← hx1]; exact va_recv hK hPc hc he), fun U hU hW => ⟨rfl, (by rw [hU]), (by rw [hU]; exact hPc), va_K.moved hW.alike hK, gN.warm hW hN, hDc.weaken (fun _ _ _ _ => trivial)⟩⟩ rfl hn hl hst (lv_room (Nat.le_of_ble_eq_true hrest)) hdg hf) hS (fun q _ h => hFc q h) hFc (fun r u t H1 locs1 ht hvm hw9 hB hz1 hk1 hS1 => ?_)
  obtain ⟨hP1, hK1, hD1⟩ := hB
  rw [ht] at hP1
  obtain ⟨a1, a2⟩ := w_call hP hD isC isR perm hC hR hR3 hdis hk1 hFc hP1 hD1 (q1 u) (q2 u) q3
  exact kk r u H1 locs1 hw9 a1 a2 hS1
theorem cV_ml {post : Int64 → S → Prop} (S9 : CallFix p m c cc nL s args Ts own) (hP : va_P G vwCl ws H) (hK : va_K G vwCl (tyG k) s) (hN : gN s) (hD : va_D A ws) (hS : va_S A s.heap H locs) (hA : ∀ q, s.heap.size ≤ q → A q)
    (hM : Met l y wy rm (va_Pc (.ref b :: As) (Wm G k wc H.size)) (va_Ql post (Bm G k (va_A wc H.size) wout) (va_A wc H.size)) mc ms (va_A wc H.size)) (hG : GoodIn Ts (wsV own index C y wy)) (hw : wy = Cond.code y bytes maxL ret :: wy') (hrc : rm.cells = mc) (hrs : rm.slots = ms) (hd : y.cls = C ∧ y.cls ≠ "java/lang/invoke/MethodHandle" ∧ y.cls ≠ "java/lang/invoke/VarHandle" ∧ (parseMethodDescriptor y.desc).map (fun d => d.parameters.length) = some n) (hR1 : Nat.ble (rm.frames + 1) R.frames = true) (hR2 : Nat.ble (8 + (maxL + 11) + rm.locals) R.locals = true)
    (isC isR perm : List Nat) (hC0 : isC.filterMap (fun i => ws[i]?) = wc) (hC : isC.map (fun i => ws[i]?) = wc.map some) (hC2 : va_nd isC = true) (hR : isR.map (fun i => ws[i]?) = (isR.filterMap (fun i => ws[i]?)).map some) (hR3 : va_nd isR = true) (hdis : ∀ i ∈ isR, i ∉ isC)
    (q1 : ∀ u, perm.filterMap (fun i => ((isR.filterMap (fun i => ws[i]?)) ++ wout u)[i]?) = wn u) (q2 : ∀ u, perm.map (fun i => ((isR.filterMap (fun i => ws[i]?)) ++ wout u)[i]?) = (wn u).map some) (q3 : va_nd perm = true) (ci q0 : Nat) {fs : List Value} {x : vw_C} (hc : vwCl[ci]? = some x) (hx1 : x.1 = C) (he : wc[q0]? = some (b, .inr (ci, fs)))
    (hn : As.length = n) (hl : ls.size = nL) (hst : st0 = As.reverse ++ .ref b :: rest) (hrest : Nat.ble ((rest.map fun v => v.category).sum) 8 = true) (hf : cells + mc ≤ R.cells ∧ slots + ms ≤ R.slots) (hdg : decode cc pc = .ok (.invokevirtual index, 3))
    (kk : ∀ (r : Int64) (u : S) (H1 : Heap) (locs1 : List Loc), post r u → va_P G vwCl (wn u) H1 → va_D A (wn u) → va_S A s.heap H1 locs1 → W p l e R s m args below meth c H1 locs1 (cells + mc) (slots + ms) Q (F0 m (pc + 3) ls (.long r :: rest))) : W p l e R s m args below meth c H locs cells slots Q (F0 m pc ls st0) := by
  have hPc := hP.sub isC hC0
  have hDc := hD.sub isC hC2 hC
  have hFc := va_free (wc := wc) hD hS hA isC hC
  refine va_calll (va_runV (As := As) (rest := rest) S9 hM (cwV n S9.2.2.2.2 hG hw hrc hrs hd ⟨Nat.le_of_ble_eq_true hR1, Nat.le_of_ble_eq_true hR2⟩) ⟨Wm.blind, (by rw [← hx1]; exact va_recv hK hPc hc he), fun U hU hW => ⟨rfl, (by rw [hU]), (by rw [hU]; exact hPc), va_K.moved hW.alike hK, gN.warm hW hN, hDc.weaken (fun _ _ _ _ => trivial)⟩⟩ rfl hn hl hst (lv_room (Nat.le_of_ble_eq_true hrest)) hdg hf) hS (fun q _ h => hFc q h) hFc (fun r u t H1 locs1 ht hvm hw9 hB hz1 hk1 hS1 => ?_)
  obtain ⟨hP1, hK1, hD1⟩ := hB
  rw [ht] at hP1
  obtain ⟨a1, a2⟩ := w_call hP hD isC isR perm hC hR hR3 hdis hk1 hFc hP1 hD1 (q1 u) (q2 u) q3
  exact kk r u H1 locs1 hw9 a1 a2 hS1
theorem cV_md {post : UInt64 → S → Prop} (S9 : CallFix p m c cc nL s args Ts own) (hP : va_P G vwCl ws H) (hK : va_K G vwCl (tyG k) s) (hN : gN s) (hD : va_D A ws) (hS : va_S A s.heap H locs) (hA : ∀ q, s.heap.size ≤ q → A q)
    (hM : Met l y wy rm (va_Pc (.ref b :: As) (Wm G k wc H.size)) (va_Qd post (Bm G k (va_A wc H.size) wout) (va_A wc H.size)) mc ms (va_A wc H.size)) (hG : GoodIn Ts (wsV own index C y wy)) (hw : wy = Cond.code y bytes maxL ret :: wy') (hrc : rm.cells = mc) (hrs : rm.slots = ms) (hd : y.cls = C ∧ y.cls ≠ "java/lang/invoke/MethodHandle" ∧ y.cls ≠ "java/lang/invoke/VarHandle" ∧ (parseMethodDescriptor y.desc).map (fun d => d.parameters.length) = some n) (hR1 : Nat.ble (rm.frames + 1) R.frames = true) (hR2 : Nat.ble (8 + (maxL + 11) + rm.locals) R.locals = true)
    (isC isR perm : List Nat) (hC0 : isC.filterMap (fun i => ws[i]?) = wc) (hC : isC.map (fun i => ws[i]?) = wc.map some) (hC2 : va_nd isC = true) (hR : isR.map (fun i => ws[i]?) = (isR.filterMap (fun i => ws[i]?)).map some) (hR3 : va_nd isR = true) (hdis : ∀ i ∈ isR, i ∉ isC)
    (q1 : ∀ u, perm.filterMap (fun i => ((isR.filterMap (fun i => ws[i]?)) ++ wout u)[i]?) = wn u) (q2 : ∀ u, perm.map (fun i => ((isR.filterMap (fun i => ws[i]?)) ++ wout u)[i]?) = (wn u).map some) (q3 : va_nd perm = true) (ci q0 : Nat) {fs : List Value} {x : vw_C} (hc : vwCl[ci]? = some x) (hx1 : x.1 = C) (he : wc[q0]? = some (b, .inr (ci, fs)))
    (hn : As.length = n) (hl : ls.size = nL) (hst : st0 = As.reverse ++ .ref b :: rest) (hrest : Nat.ble ((rest.map fun v => v.category).sum) 8 = true) (hf : cells + mc ≤ R.cells ∧ slots + ms ≤ R.slots) (hdg : decode cc pc = .ok (.invokevirtual index, 3))
    (kk : ∀ (r : UInt64) (u : S) (H1 : Heap) (locs1 : List Loc), post r u → va_P G vwCl (wn u) H1 → va_D A (wn u) → va_S A s.heap H1 locs1 → W p l e R s m args below meth c H1 locs1 (cells + mc) (slots + ms) Q (F0 m (pc + 3) ls (.double r :: rest))) : W p l e R s m args below meth c H locs cells slots Q (F0 m pc ls st0) := by
  have hPc := hP.sub isC hC0
  have hDc := hD.sub isC hC2 hC
  have hFc := va_free (wc := wc) hD hS hA isC hC
  refine va_calld (va_runV (As := As) (rest := rest) S9 hM (cwV n S9.2.2.2.2 hG hw hrc hrs hd ⟨Nat.le_of_ble_eq_true hR1, Nat.le_of_ble_eq_true hR2⟩) ⟨Wm.blind, (by rw [← hx1]; exact va_recv hK hPc hc he), fun U hU hW => ⟨rfl, (by rw [hU]), (by rw [hU]; exact hPc), va_K.moved hW.alike hK, gN.warm hW hN, hDc.weaken (fun _ _ _ _ => trivial)⟩⟩ rfl hn hl hst (lv_room (Nat.le_of_ble_eq_true hrest)) hdg hf) hS (fun q _ h => hFc q h) hFc (fun r u t H1 locs1 ht hvm hw9 hB hz1 hk1 hS1 => ?_)
  obtain ⟨hP1, hK1, hD1⟩ := hB
  rw [ht] at hP1
  obtain ⟨a1, a2⟩ := w_call hP hD isC isR perm hC hR hR3 hdis hk1 hFc hP1 hD1 (q1 u) (q2 u) q3
  exact kk r u H1 locs1 hw9 a1 a2 hS1
theorem cV_mv {post : S → Prop} (S9 : CallFix p m c cc nL s args Ts own) (hP : va_P G vwCl ws H) (hK : va_K G vwCl (tyG k) s) (hN : gN s) (hD : va_D A ws) (hS : va_S A s.heap H locs) (hA : ∀ q, s.heap.size ≤ q → A q)
    (hM : Met l y wy rm (va_Pc (.ref b :: As) (Wm G k wc H.size)) (va_Qv post (Bm G k (va_A wc H.size) wout) (va_A wc H.size)) mc ms (va_A wc H.size)) (hG : GoodIn Ts (wsV own index C y wy)) (hw : wy = Cond.code y bytes maxL ret :: wy') (hrc : rm.cells = mc) (hrs : rm.slots = ms) (hd : y.cls = C ∧ y.cls ≠ "java/lang/invoke/MethodHandle" ∧ y.cls ≠ "java/lang/invoke/VarHandle" ∧ (parseMethodDescriptor y.desc).map (fun d => d.parameters.length) = some n) (hR1 : Nat.ble (rm.frames + 1) R.frames = true) (hR2 : Nat.ble (8 + (maxL + 11) + rm.locals) R.locals = true)
    (isC isR perm : List Nat) (hC0 : isC.filterMap (fun i => ws[i]?) = wc) (hC : isC.map (fun i => ws[i]?) = wc.map some) (hC2 : va_nd isC = true) (hR : isR.map (fun i => ws[i]?) = (isR.filterMap (fun i => ws[i]?)).map some) (hR3 : va_nd isR = true) (hdis : ∀ i ∈ isR, i ∉ isC)
    (q1 : ∀ u, perm.filterMap (fun i => ((isR.filterMap (fun i => ws[i]?)) ++ wout u)[i]?) = wn u) (q2 : ∀ u, perm.map (fun i => ((isR.filterMap (fun i => ws[i]?)) ++ wout u)[i]?) = (wn u).map some) (q3 : va_nd perm = true) (ci q0 : Nat) {fs : List Value} {x : vw_C} (hc : vwCl[ci]? = some x) (hx1 : x.1 = C) (he : wc[q0]? = some (b, .inr (ci, fs)))
    (hn : As.length = n) (hl : ls.size = nL) (hst : st0 = As.reverse ++ .ref b :: rest) (hrest : Nat.ble ((rest.map fun v => v.category).sum) 8 = true) (hf : cells + mc ≤ R.cells ∧ slots + ms ≤ R.slots) (hdg : decode cc pc = .ok (.invokevirtual index, 3))
    (kk : ∀ (u : S) (H1 : Heap) (locs1 : List Loc), post u → va_P G vwCl (wn u) H1 → va_D A (wn u) → va_S A s.heap H1 locs1 → W p l e R s m args below meth c H1 locs1 (cells + mc) (slots + ms) Q (F0 m (pc + 3) ls rest)) : W p l e R s m args below meth c H locs cells slots Q (F0 m pc ls st0) := by
  have hPc := hP.sub isC hC0
  have hDc := hD.sub isC hC2 hC
  have hFc := va_free (wc := wc) hD hS hA isC hC
  refine va_callv (va_runV (As := As) (rest := rest) S9 hM (cwV n S9.2.2.2.2 hG hw hrc hrs hd ⟨Nat.le_of_ble_eq_true hR1, Nat.le_of_ble_eq_true hR2⟩) ⟨Wm.blind, (by rw [← hx1]; exact va_recv hK hPc hc he), fun U hU hW => ⟨rfl, (by rw [hU]), (by rw [hU]; exact hPc), va_K.moved hW.alike hK, gN.warm hW hN, hDc.weaken (fun _ _ _ _ => trivial)⟩⟩ rfl hn hl hst (lv_room (Nat.le_of_ble_eq_true hrest)) hdg hf) hS (fun q _ h => hFc q h) hFc (fun u t H1 locs1 ht hvm hw9 hB hz1 hk1 hS1 => ?_)
  obtain ⟨hP1, hK1, hD1⟩ := hB
  rw [ht] at hP1
  obtain ⟨a1, a2⟩ := w_call hP hD isC isR perm hC hR hR3 hdis hk1 hFc hP1 hD1 (q1 u) (q2 u) q3
  exact kk u H1 locs1 hw9 a1 a2 hS1
theorem cS_mv {post : S → Prop} (S9 : CallFix p m c cc nL s args Ts own) (hP : va_P G vwCl ws H) (hK : va_K G vwCl (tyG k) s) (hN : gN s) (hD : va_D A ws) (hS : va_S A s.heap H locs) (hA : ∀ q, s.heap.size ≤ q → A q)
    (hM : Met l y wy rm (va_Pc As (Wm G k wc H.size)) (va_Qv post (Bm G k (va_A wc H.size) wout) (va_A wc H.size)) mc ms (va_A wc H.size)) (hG : GoodIn Ts (va_wsS own index y wy)) (hw : wy = Cond.code y bytes maxL ret :: wy') (hrc : rm.cells = mc) (hrs : rm.slots = ms) (hd : y.cls ≠ "java/lang/invoke/MethodHandle" ∧ y.cls ≠ "java/lang/invoke/VarHandle" ∧ (parseMethodDescriptor y.desc).map (fun d => d.parameters.length) = some n) (hR1 : Nat.ble (rm.frames + 1) R.frames = true) (hR2 : Nat.ble (8 + (maxL + 11) + rm.locals) R.locals = true)
    (isC isR perm : List Nat) (hC0 : isC.filterMap (fun i => ws[i]?) = wc) (hC : isC.map (fun i => ws[i]?) = wc.map some) (hC2 : va_nd isC = true) (hR : isR.map (fun i => ws[i]?) = (isR.filterMap (fun i => ws[i]?)).map some) (hR3 : va_nd isR = true) (hdis : ∀ i ∈ isR, i ∉ isC)
    (q1 : ∀ u, perm.filterMap (fun i => ((isR.filterMap (fun i => ws[i]?)) ++ wout u)[i]?) = wn u) (q2 : ∀ u, perm.map (fun i => ((isR.filterMap (fun i => ws[i]?)) ++ wout u)[i]?) = (wn u).map some) (q3 : va_nd perm = true) 
    (hn : As.length = n) (hl : ls.size = nL) (hst : st0 = As.reverse ++ rest) (hrest : Nat.ble ((rest.map fun v => v.category).sum) 8 = true) (hf : cells + mc ≤ R.cells ∧ slots + ms ≤ R.slots) (hdg : decode cc pc = .ok (.invokestatic index, 3))
    (kk : ∀ (u : S) (H1 : Heap) (locs1 : List Loc), post u → va_P G vwCl (wn u) H1 → va_D A (wn u) → va_S A s.heap H1 locs1 → W p l e R s m args below meth c H1 locs1 (cells + mc) (slots + ms) Q (F0 m (pc + 3) ls rest)) : W p l e R s m args below meth c H locs cells slots Q (F0 m pc ls st0) := by
  have hPc := hP.sub isC hC0
  have hDc := hD.sub isC hC2 hC
  have hFc := va_free (wc := wc) hD hS hA isC hC
  refine va_callv (va_runS (As := As) (rest := rest) S9 hM (va_cwS n S9.2.2.2.2 hG hw hrc hrs hd ⟨Nat.le_of_ble_eq_true hR1, Nat.le_of_ble_eq_true hR2⟩) ⟨Wm.blind, fun U hU hW => ⟨rfl, (by rw [hU]), (by rw [hU]; exact hPc), va_K.moved hW.alike hK, gN.warm hW hN, hDc.weaken (fun _ _ _ _ => trivial)⟩⟩ rfl hn hl hst (lv_room (Nat.le_of_ble_eq_true hrest)) hdg hf) hS (fun q _ h => hFc q h) hFc (fun u t H1 locs1 ht hvm hw9 hB hz1 hk1 hS1 => ?_)
  obtain ⟨hP1, hK1, hD1⟩ := hB
  rw [ht] at hP1
  obtain ⟨a1, a2⟩ := w_call hP hD isC isR perm hC hR hR3 hdis hk1 hFc hP1 hD1 (q1 u) (q2 u) q3
  exact kk u H1 locs1 hw9 a1 a2 hS1
theorem cI_mv {post : S → Prop} (S9 : CallFix p m c cc nL s args Ts own) (hP : va_P G vwCl ws H) (hK : va_K G vwCl (tyG k) s) (hN : gN s) (hD : va_D A ws) (hS : va_S A s.heap H locs) (hA : ∀ q, s.heap.size ≤ q → A q)
    (hM : Met l y wy rm (va_Pc (.ref b :: As) (Wm G k wc H.size)) (va_Qv post (Bm G k (va_A wc H.size) wout) (va_A wc H.size)) mc ms (va_A wc H.size)) (hG : GoodIn Ts wy) (hini : Cond.initialized y.cls ∈ Ts) (hlk : Cond.methodLink own index y ∈ Ts) (hin : Cond.instanceMethod y ∈ Ts) (hnm : y.name = "<init>") (hw : wy = Cond.code y bytes maxL none :: wy') (hrc : rm.cells = mc) (hrs : rm.slots = ms) (hd : y.cls ≠ "java/lang/invoke/MethodHandle" ∧ y.cls ≠ "java/lang/invoke/VarHandle" ∧ (parseMethodDescriptor y.desc).map (fun d => d.parameters.length) = some n) (hR1 : Nat.ble (rm.frames + 1) R.frames = true) (hR2 : Nat.ble (8 + (maxL + 11) + rm.locals) R.locals = true)
    (isC isR perm : List Nat) (hC0 : isC.filterMap (fun i => ws[i]?) = wc) (hC : isC.map (fun i => ws[i]?) = wc.map some) (hC2 : va_nd isC = true) (hR : isR.map (fun i => ws[i]?) = (isR.filterMap (fun i => ws[i]?)).map some) (hR3 : va_nd isR = true) (hdis : ∀ i ∈ isR, i ∉ isC)
    (q1 : ∀ u, perm.filterMap (fun i => ((isR.filterMap (fun i => ws[i]?)) ++ wout u)[i]?) = wn u) (q2 : ∀ u, perm.map (fun i => ((isR.filterMap (fun i => ws[i]?)) ++ wout u)[i]?) = (wn u).map some) (q3 : va_nd perm = true) 
    (hn : As.length = n) (hl : ls.size = nL) (hst : st0 = As.reverse ++ .ref b :: rest) (hrest : Nat.ble ((rest.map fun v => v.category).sum) 8 = true) (hf : cells + mc ≤ R.cells ∧ slots + ms ≤ R.slots) (hdg : decode cc pc = .ok (.invokespecial index, 3))
    (kk : ∀ (u : S) (H1 : Heap) (locs1 : List Loc), post u → va_P G vwCl (wn u) H1 → va_D A (wn u) → va_S A s.heap H1 locs1 → W p l e R s m args below meth c H1 locs1 (cells + mc) (slots + ms) Q (F0 m (pc + 3) ls rest)) : W p l e R s m args below meth c H locs cells slots Q (F0 m pc ls st0) := by
  have hPc := hP.sub isC hC0
  have hDc := hD.sub isC hC2 hC
  have hFc := va_free (wc := wc) hD hS hA isC hC
  refine va_callv (va_runI (As := As) (rest := rest) S9 hM (cwI n S9.2.2.2.2 hG hw hrc hrs (S9.2.2.2.2 _ hini) (S9.2.2.2.2 _ hlk) (S9.2.2.2.2 _ hin) hnm hd ⟨Nat.le_of_ble_eq_true hR1, Nat.le_of_ble_eq_true hR2⟩) ⟨Wm.blind, fun U hU hW => ⟨rfl, (by rw [hU]), (by rw [hU]; exact hPc), va_K.moved hW.alike hK, gN.warm hW hN, hDc.weaken (fun _ _ _ _ => trivial)⟩⟩ rfl hn hl hst (lv_room (Nat.le_of_ble_eq_true hrest)) hdg hf) hS (fun q _ h => hFc q h) hFc (fun u t H1 locs1 ht hvm hw9 hB hz1 hk1 hS1 => ?_)
  obtain ⟨hP1, hK1, hD1⟩ := hB
  rw [ht] at hP1
  obtain ⟨a1, a2⟩ := w_call hP hD isC isR perm hC hR hR3 hdis hk1 hFc hP1 hD1 (q1 u) (q2 u) q3
  exact kk u H1 locs1 hw9 a1 a2 hS1
theorem cIN_mv {post : S → Prop} (S9 : CallFix p m c cc nL s args Ts own) (hP : va_P G vwCl ws H) (hK : va_K G vwCl (tyG k) s) (hN : gN s) (hD : va_D A ws) (hS : va_S A s.heap H locs) (hA : ∀ q, s.heap.size ≤ q → A q)
    (hM : Met l y wy rm (va_Pc (.ref b :: As) (Wm G k wc H.size)) (va_Qv post (Bm G k (va_A wc H.size) wout) (va_A wc H.size)) mc ms (va_A wc H.size)) (hG : GoodIn Ts wy) (hini : Cond.initialized y.cls ∈ Ts) (hl0 : va_Nw (.methodLinkNest own index y host) s) (hin : Cond.instanceMethod y ∈ Ts) (hnm : y.name = "<init>") (hw : wy = Cond.code y bytes maxL none :: wy') (hrc : rm.cells = mc) (hrs : rm.slots = ms) (hd : y.cls ≠ "java/lang/invoke/MethodHandle" ∧ y.cls ≠ "java/lang/invoke/VarHandle" ∧ (parseMethodDescriptor y.desc).map (fun d => d.parameters.length) = some n) (hR1 : Nat.ble (rm.frames + 1) R.frames = true) (hR2 : Nat.ble (8 + (maxL + 11) + rm.locals) R.locals = true)
    (isC isR perm : List Nat) (hC0 : isC.filterMap (fun i => ws[i]?) = wc) (hC : isC.map (fun i => ws[i]?) = wc.map some) (hC2 : va_nd isC = true) (hR : isR.map (fun i => ws[i]?) = (isR.filterMap (fun i => ws[i]?)).map some) (hR3 : va_nd isR = true) (hdis : ∀ i ∈ isR, i ∉ isC)
    (q1 : ∀ u, perm.filterMap (fun i => ((isR.filterMap (fun i => ws[i]?)) ++ wout u)[i]?) = wn u) (q2 : ∀ u, perm.map (fun i => ((isR.filterMap (fun i => ws[i]?)) ++ wout u)[i]?) = (wn u).map some) (q3 : va_nd perm = true) 
    (hn : As.length = n) (hl : ls.size = nL) (hst : st0 = As.reverse ++ .ref b :: rest) (hrest : Nat.ble ((rest.map fun v => v.category).sum) 8 = true) (hf : cells + mc ≤ R.cells ∧ slots + ms ≤ R.slots) (hdg : decode cc pc = .ok (.invokespecial index, 3))
    (kk : ∀ (u : S) (H1 : Heap) (locs1 : List Loc), post u → va_P G vwCl (wn u) H1 → va_D A (wn u) → va_S A s.heap H1 locs1 → W p l e R s m args below meth c H1 locs1 (cells + mc) (slots + ms) Q (F0 m (pc + 3) ls rest)) : W p l e R s m args below meth c H locs cells slots Q (F0 m pc ls st0) := by
  have hPc := hP.sub isC hC0
  have hDc := hD.sub isC hC2 hC
  have hFc := va_free (wc := wc) hD hS hA isC hC
  refine va_callv (va_runIN (As := As) (rest := rest) S9 hM ⟨va_cnB n S9.2.2.2.2 hG hw hrc hrs hl0 (S9.2.2.2.2 _ hini) hd ⟨Nat.le_of_ble_eq_true hR1, Nat.le_of_ble_eq_true hR2⟩, hnm, S9.2.2.2.2 _ hin⟩ ⟨Wm.blind, fun U hU hW => ⟨rfl, (by rw [hU]), (by rw [hU]; exact hPc), va_K.moved hW.alike hK, gN.warm hW hN, hDc.weaken (fun _ _ _ _ => trivial)⟩⟩ rfl hn hl hst (lv_room (Nat.le_of_ble_eq_true hrest)) hdg hf) hS (fun q _ h => hFc q h) hFc (fun u t H1 locs1 ht hvm hw9 hB hz1 hk1 hS1 => ?_)
  obtain ⟨hP1, hK1, hD1⟩ := hB
  rw [ht] at hP1
  obtain ⟨a1, a2⟩ := w_call hP hD isC isR perm hC hR hR3 hdis hk1 hFc hP1 hD1 (q1 u) (q2 u) q3
  exact kk u H1 locs1 hw9 a1 a2 hS1
end MCALLS
