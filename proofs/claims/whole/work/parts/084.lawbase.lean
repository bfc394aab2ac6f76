/-! calls with a block of the world; the law's world (written by wip/whole/gen_law.py) -/
section BCALLS
variable {p : Program} {l : Launch} {e : Env} {R : Room} {s : State} {m : MethodId} {args : Array Value} {below : List Frame} {meth : Method} {c : Code} {H : Heap} {locs : List Loc} {cells slots mc ms : Nat} {Q : State → Prop}
variable {cc : ByteArray} {pc nL : Nat} {ls : Array Slot} {rest st0 : List Value} {G : va_G} {k : Nat → ClassId} {A : Nat → Prop} {ws wc wr : va_W} {S : Type} {wout wn : S → va_W}
variable {y : MethodName} {bytes : ByteArray} {maxL n index : Nat} {ret : Option FieldType} {hh : List (Nat × Nat × Nat × Nat)} {wy wy' : List Cond} {rm : Room} {Ts : List Cond} {own C : String} {b : Addr} {As : List Value}
theorem bV_i {post : Int32 → S → Prop} (S9 : CallFix p m c cc nL s args Ts own) (hP : va_P G vwCl ws H) (hK : va_K G vwCl (tyG k) s) (hN : gN s) (hD : va_D A ws) (hS : va_S A s.heap H locs) (hA : ∀ q, s.heap.size ≤ q → A q)
    (hM : Met l y wy rm (va_Pc (.ref b :: As) (Wm G k wc H.size)) (va_Qi post (Bm G k (va_A wc H.size) wout) (va_A wc H.size)) mc ms (va_A wc H.size)) (hG : GoodIn Ts (wsV own index C y wy)) (hw : wy = Cond.code y bytes maxL ret :: wy') (hrc : rm.cells = mc) (hrs : rm.slots = ms) (hd : y.cls = C ∧ y.cls ≠ "java/lang/invoke/MethodHandle" ∧ y.cls ≠ "java/lang/invoke/VarHandle" ∧ (parseMethodDescriptor y.desc).map (fun d => d.parameters.length) = some n) (hR1 : Nat.ble (rm.frames + 1) R.frames = true) (hR2 : Nat.ble (8 + (maxL + 11) + rm.locals) R.locals = true)
    (hp1 : ws.Perm (wc ++ wr)) (hp2 : ∀ u, (wout u ++ wr).Perm (wn u)) (ci q0 : Nat) {fs : List Value} {x : vw_C} (hc : vwCl[ci]? = some x) (hx1 : x.1 = C) (he : wc[q0]? = some (b, .inr (ci, fs)))
    (hn : As.length = n) (hl : ls.size = nL) (hst : st0 = As.reverse ++ .ref b :: rest) (hrest : Nat.ble ((rest.map fun v => v.category).sum) 8 = true) (hf : cells + mc ≤ R.cells ∧ slots + ms ≤ R.slots) (hdg : decode cc pc = .ok (.invokevirtual index, 3))
    (kk : ∀ (r : Int32) (u : S) (H1 : Heap) (locs1 : List Loc), post r u → va_P G vwCl (wn u) H1 → va_D A (wn u) → va_S A s.heap H1 locs1 → W p l e R s m args below meth c H1 locs1 (cells + mc) (slots + ms) Q (F0 m (pc + 3) ls (.int r :: rest))) : W p l e R s m args below meth c H locs cells slots Q (F0 m pc ls st0) := by
  have hP' := P_perm hp1 hP
  have hD' := D_perm hp1 hD
  have hPc := P_l hP'
  have hDc := (D_app.mp hD').1
  have hFc := blk_free hD' hS hA
  refine va_calli (va_runV (As := As) (rest := rest) S9 hM (cwV n S9.2.2.2.2 hG hw hrc hrs hd ⟨Nat.le_of_ble_eq_true hR1, Nat.le_of_ble_eq_true hR2⟩) ⟨Wm.blind, (by rw [← hx1]; exact va_recv hK hPc hc he), fun U hU hW => ⟨rfl, (by rw [hU]), (by rw [hU]; exact hPc), va_K.moved hW.alike hK, gN.warm hW hN, hDc.weaken (fun _ _ _ _ => trivial)⟩⟩ rfl hn hl hst (lv_room (Nat.le_of_ble_eq_true hrest)) hdg hf) hS (fun q _ h => hFc q h) hFc (fun r u t H1 locs1 ht hvm hw9 hB hz1 hk1 hS1 => ?_)
  obtain ⟨hP1, hK1, hD1⟩ := hB
  rw [ht] at hP1
  obtain ⟨a1, a2⟩ := blk_call hP' hD' hk1 hFc hP1 hD1
  exact kk r u H1 locs1 hw9 (P_perm (hp2 u) a1) (D_perm (hp2 u) a2) hS1
theorem bV_l {post : Int64 → S → Prop} (S9 : CallFix p m c cc nL s args Ts own) (hP : va_P G vwCl ws H) (hK : va_K G vwCl (tyG k) s) (hN : gN s) (hD : va_D A ws) (hS : va_S A s.heap H locs) (hA : ∀ q, s.heap.size ≤ q → A q)
    (hM : Met l y wy rm (va_Pc (.ref b :: As) (Wm G k wc H.size)) (va_Ql post (Bm G k (va_A wc H.size) wout) (va_A wc H.size)) mc ms (va_A wc H.size)) (hG : GoodIn Ts (wsV own index C y wy)) (hw : wy = Cond.code y bytes maxL ret :: wy') (hrc : rm.cells = mc) (hrs : rm.slots = ms) (hd : y.cls = C ∧ y.cls ≠ "java/lang/invoke/MethodHandle" ∧ y.cls ≠ "java/lang/invoke/VarHandle" ∧ (parseMethodDescriptor y.desc).map (fun d => d.parameters.length) = some n) (hR1 : Nat.ble (rm.frames + 1) R.frames = true) (hR2 : Nat.ble (8 + (maxL + 11) + rm.locals) R.locals = true)
    (hp1 : ws.Perm (wc ++ wr)) (hp2 : ∀ u, (wout u ++ wr).Perm (wn u)) (ci q0 : Nat) {fs : List Value} {x : vw_C} (hc : vwCl[ci]? = some x) (hx1 : x.1 = C) (he : wc[q0]? = some (b, .inr (ci, fs)))
    (hn : As.length = n) (hl : ls.size = nL) (hst : st0 = As.reverse ++ .ref b :: rest) (hrest : Nat.ble ((rest.map fun v => v.category).sum) 8 = true) (hf : cells + mc ≤ R.cells ∧ slots + ms ≤ R.slots) (hdg : decode cc pc = .ok (.invokevirtual index, 3))
    (kk : ∀ (r : Int64) (u : S) (H1 : Heap) (locs1 : List Loc), post r u → va_P G vwCl (wn u) H1 → va_D A (wn u) → va_S A s.heap H1 locs1 → W p l e R s m args below meth c H1 locs1 (cells + mc) (slots + ms) Q (F0 m (pc + 3) ls (.long r :: rest))) : W p l e R s m args below meth c H locs cells slots Q (F0 m pc ls st0) := by
  have hP' := P_perm hp1 hP
  have hD' := D_perm hp1 hD
  have hPc := P_l hP'
  have hDc := (D_app.mp hD').1
  have hFc := blk_free hD' hS hA
  refine va_calll (va_runV (As := As) (rest := rest) S9 hM (cwV n S9.2.2.2.2 hG hw hrc hrs hd ⟨Nat.le_of_ble_eq_true hR1, Nat.le_of_ble_eq_true hR2⟩) ⟨Wm.blind, (by rw [← hx1]; exact va_recv hK hPc hc he), fun U hU hW => ⟨rfl, (by rw [hU]), (by rw [hU]; exact hPc), va_K.moved hW.alike hK, gN.warm hW hN, hDc.weaken (fun _ _ _ _ => trivial)⟩⟩ rfl hn hl hst (lv_room (Nat.le_of_ble_eq_true hrest)) hdg hf) hS (fun q _ h => hFc q h) hFc (fun r u t H1 locs1 ht hvm hw9 hB hz1 hk1 hS1 => ?_)
  obtain ⟨hP1, hK1, hD1⟩ := hB
  rw [ht] at hP1
  obtain ⟨a1, a2⟩ := blk_call hP' hD' hk1 hFc hP1 hD1
  exact kk r u H1 locs1 hw9 (P_perm (hp2 u) a1) (D_perm (hp2 u) a2) hS1
theorem bV_d {post : UInt64 → S → Prop} (S9 : CallFix p m c cc nL s args Ts own) (hP : va_P G vwCl ws H) (hK : va_K G vwCl (tyG k) s) (hN : gN s) (hD : va_D A ws) (hS : va_S A s.heap H locs) (hA : ∀ q, s.heap.size ≤ q → A q)
    (hM : Met l y wy rm (va_Pc (.ref b :: As) (Wm G k wc H.size)) (va_Qd post (Bm G k (va_A wc H.size) wout) (va_A wc H.size)) mc ms (va_A wc H.size)) (hG : GoodIn Ts (wsV own index C y wy)) (hw : wy = Cond.code y bytes maxL ret :: wy') (hrc : rm.cells = mc) (hrs : rm.slots = ms) (hd : y.cls = C ∧ y.cls ≠ "java/lang/invoke/MethodHandle" ∧ y.cls ≠ "java/lang/invoke/VarHandle" ∧ (parseMethodDescriptor y.desc).map (fun d => d.parameters.length) = some n) (hR1 : Nat.ble (rm.frames + 1) R.frames = true) (hR2 : Nat.ble (8 + (maxL + 11) + rm.locals) R.locals = true)
    (hp1 : ws.Perm (wc ++ wr)) (hp2 : ∀ u, (wout u ++ wr).Perm (wn u)) (ci q0 : Nat) {fs : List Value} {x : vw_C} (hc : vwCl[ci]? = some x) (hx1 : x.1 = C) (he : wc[q0]? = some (b, .inr (ci, fs)))
    (hn : As.length = n) (hl : ls.size = nL) (hst : st0 = As.reverse ++ .ref b :: rest) (hrest : Nat.ble ((rest.map fun v => v.category).sum) 8 = true) (hf : cells + mc ≤ R.cells ∧ slots + ms ≤ R.slots) (hdg : decode cc pc = .ok (.invokevirtual index, 3))
    (kk : ∀ (r : UInt64) (u : S) (H1 : Heap) (locs1 : List Loc), post r u → va_P G vwCl (wn u) H1 → va_D A (wn u) → va_S A s.heap H1 locs1 → W p l e R s m args below meth c H1 locs1 (cells + mc) (slots + ms) Q (F0 m (pc + 3) ls (.double r :: rest))) : W p l e R s m args below meth c H locs cells slots Q (F0 m pc ls st0) := by
  have hP' := P_perm hp1 hP
  have hD' := D_perm hp1 hD
  have hPc := P_l hP'
  have hDc := (D_app.mp hD').1
  have hFc := blk_free hD' hS hA
  refine va_calld (va_runV (As := As) (rest := rest) S9 hM (cwV n S9.2.2.2.2 hG hw hrc hrs hd ⟨Nat.le_of_ble_eq_true hR1, Nat.le_of_ble_eq_true hR2⟩) ⟨Wm.blind, (by rw [← hx1]; exact va_recv hK hPc hc he), fun U hU hW => ⟨rfl, (by rw [hU]), (by rw [hU]; exact hPc), va_K.moved hW.alike hK, gN.warm hW hN, hDc.weaken (fun _ _ _ _ => trivial)⟩⟩ rfl hn hl hst (lv_room (Nat.le_of_ble_eq_true hrest)) hdg hf) hS (fun q _ h => hFc q h) hFc (fun r u t H1 locs1 ht hvm hw9 hB hz1 hk1 hS1 => ?_)
  obtain ⟨hP1, hK1, hD1⟩ := hB
  rw [ht] at hP1
  obtain ⟨a1, a2⟩ := blk_call hP' hD' hk1 hFc hP1 hD1
  exact kk r u H1 locs1 hw9 (P_perm (hp2 u) a1) (D_perm (hp2 u) a2) hS1
/-- a helper, which catches what its callee throws -/
theorem bH_i {post : Int32 → S → Prop} (S9 : CallFix p m c cc nL s args Ts own) (hP : va_P G vwCl ws H) (hK : va_K G vwCl (tyG k) s) (hN : gN s) (hE : xE A s) (hD : va_D A ws) (hS : va_S A s.heap H locs) (hA : ∀ q, s.heap.size ≤ q → A q)
    (hM : vx_Met l y wy rm (va_Pc As (Wx G k wc H.size)) (va_Qi post (Bm G k (va_A wc H.size) wout) (va_A wc H.size)) (noX (va_A wc H.size)) mc ms (va_A wc H.size)) (hG : GoodIn Ts (va_wsS own index y wy)) (hw : wy = Cond.codeWith y bytes maxL ret hh :: wy') (hrc : rm.cells = mc) (hrs : rm.slots = ms) (hd : y.cls ≠ "java/lang/invoke/MethodHandle" ∧ y.cls ≠ "java/lang/invoke/VarHandle" ∧ (parseMethodDescriptor y.desc).map (fun d => d.parameters.length) = some n) (hR1 : Nat.ble (rm.frames + 1) R.frames = true) (hR2 : Nat.ble (8 + (maxL + 11) + rm.locals) R.locals = true)
    (hp1 : ws.Perm (wc ++ wr)) (hp2 : ∀ u, (wout u ++ wr).Perm (wn u))
    (hn : As.length = n) (hl : ls.size = nL) (hst : st0 = As.reverse ++ rest) (hrest : Nat.ble ((rest.map fun v => v.category).sum) 8 = true) (hf : cells + mc ≤ R.cells ∧ slots + ms ≤ R.slots) (hdg : decode cc pc = .ok (.invokestatic index, 3))
    (kk : ∀ (r : Int32) (u : S) (H1 : Heap) (locs1 : List Loc), post r u → va_P G vwCl (wn u) H1 → va_D A (wn u) → va_S A s.heap H1 locs1 → W p l e R s m args below meth c H1 locs1 (cells + mc) (slots + ms) Q (F0 m (pc + 3) ls (.int r :: rest))) : W p l e R s m args below meth c H locs cells slots Q (F0 m pc ls st0) := by
  have hP' := P_perm hp1 hP
  have hD' := D_perm hp1 hD
  have hPc := P_l hP'
  have hDc := (D_app.mp hD').1
  have hFc := blk_free hD' hS hA
  refine vx_calli (vx_runSX (As := As) (rest := rest) S9 hM (vx_cwSW n S9.2.2.2.2 hG hw hrc hrs hd ⟨Nat.le_of_ble_eq_true hR1, Nat.le_of_ble_eq_true hR2⟩) ⟨Wx.blind, fun U hU hW => ⟨rfl, ⟨(by rw [hU]), (by rw [hU]; exact hPc), va_K.moved hW.alike hK, gN.warm hW hN, hDc.weaken (fun _ _ _ _ => trivial)⟩, xE.to hW (fun a h1 h2 => by rw [hU]; exact hS.2.1 a h1 h2) hFc hE⟩⟩ rfl hn hl hst (lv_room (Nat.le_of_ble_eq_true hrest)) hdg hf) hS (fun q _ h => hFc q h) hFc (fun q _ h => hFc q h) (fun E ce q9 u t H1 locs1 ht hvm hpx hB hz1 hk1 hS1 c1 c2 c3 => hB.elim) (fun r u t H1 locs1 ht hvm hw9 hB hz1 hk1 hS1 => ?_)
  obtain ⟨hP1, hK1, hD1⟩ := hB
  rw [ht] at hP1
  obtain ⟨a1, a2⟩ := blk_call hP' hD' hk1 hFc hP1 hD1
  exact kk r u H1 locs1 hw9 (P_perm (hp2 u) a1) (D_perm (hp2 u) a2) hS1
/-- a constructor -/
theorem bI_v {post : S → Prop} (S9 : CallFix p m c cc nL s args Ts own) (hP : va_P G vwCl ws H) (hK : va_K G vwCl (tyG k) s) (hN : gN s) (hD : va_D A ws) (hS : va_S A s.heap H locs) (hA : ∀ q, s.heap.size ≤ q → A q)
    (hM : Met l y wy rm (va_Pc (.ref b :: As) (Wm G k wc H.size)) (va_Qv post (Bm G k (va_A wc H.size) wout) (va_A wc H.size)) mc ms (va_A wc H.size)) (hG : GoodIn Ts wy) (hini : Cond.initialized y.cls ∈ Ts) (hlk : Cond.methodLink own index y ∈ Ts) (hin : Cond.instanceMethod y ∈ Ts) (hnm : y.name = "<init>") (hw : wy = Cond.code y bytes maxL none :: wy') (hrc : rm.cells = mc) (hrs : rm.slots = ms) (hd : y.cls ≠ "java/lang/invoke/MethodHandle" ∧ y.cls ≠ "java/lang/invoke/VarHandle" ∧ (parseMethodDescriptor y.desc).map (fun d => d.parameters.length) = some n) (hR1 : Nat.ble (rm.frames + 1) R.frames = true) (hR2 : Nat.ble (8 + (maxL + 11) + rm.locals) R.locals = true)
    (hp1 : ws.Perm (wc ++ wr)) (hp2 : ∀ u, (wout u ++ wr).Perm (wn u))
    (hn : As.length = n) (hl : ls.size = nL) (hst : st0 = As.reverse ++ .ref b :: rest) (hrest : Nat.ble ((rest.map fun v => v.category).sum) 8 = true) (hf : cells + mc ≤ R.cells ∧ slots + ms ≤ R.slots) (hdg : decode cc pc = .ok (.invokespecial index, 3))
    (kk : ∀ (u : S) (H1 : Heap) (locs1 : List Loc), post u → va_P G vwCl (wn u) H1 → va_D A (wn u) → va_S A s.heap H1 locs1 → W p l e R s m args below meth c H1 locs1 (cells + mc) (slots + ms) Q (F0 m (pc + 3) ls rest)) : W p l e R s m args below meth c H locs cells slots Q (F0 m pc ls st0) := by
  have hP' := P_perm hp1 hP
  have hD' := D_perm hp1 hD
  have hPc := P_l hP'
  have hDc := (D_app.mp hD').1
  have hFc := blk_free hD' hS hA
  refine va_callv (va_runI (As := As) (rest := rest) S9 hM (cwI n S9.2.2.2.2 hG hw hrc hrs (S9.2.2.2.2 _ hini) (S9.2.2.2.2 _ hlk) (S9.2.2.2.2 _ hin) hnm hd ⟨Nat.le_of_ble_eq_true hR1, Nat.le_of_ble_eq_true hR2⟩) ⟨Wm.blind, fun U hU hW => ⟨rfl, (by rw [hU]), (by rw [hU]; exact hPc), va_K.moved hW.alike hK, gN.warm hW hN, hDc.weaken (fun _ _ _ _ => trivial)⟩⟩ rfl hn hl hst (lv_room (Nat.le_of_ble_eq_true hrest)) hdg hf) hS (fun q _ h => hFc q h) hFc (fun u t H1 locs1 ht hvm hw9 hB hz1 hk1 hS1 => ?_)
  obtain ⟨hP1, hK1, hD1⟩ := hB
  rw [ht] at hP1
  obtain ⟨a1, a2⟩ := blk_call hP' hD' hk1 hFc hP1 hD1
  exact kk u H1 locs1 hw9 (P_perm (hp2 u) a1) (D_perm (hp2 u) a2) hS1
theorem n_newL {N : Nat} {H0 : Heap} (hx : p.tables.exec = Jvm.exec) (hb : c.code = cc) (harr : (Cond.arrayClass .long).before args s = true) (hK : va_K G vwCl (tyG k) s) (hP : va_P G vwCl ws H) (hD : va_D A ws) (hS : va_S A H0 H locs) (hA : ∀ q, H0.size ≤ q → A q) (hN : N < 65536) (hcells : cells + 1 ≤ R.cells) (hslots : slots + N ≤ R.slots) (hdg : decode cc pc = .ok (.newarray .long, 2))
    (kk : ∀ (q : Nat) (H1 : Heap), va_P G vwCl (ws ++ [(q, .inl (k 3, N, .inr (.inl (fun _ => 0))))]) H1 → va_D A (ws ++ [(q, .inl (k 3, N, .inr (.inl (fun _ => 0))))]) → va_S A H0 H1 locs → W p l e R s m args below meth c H1 locs (cells + 1) (slots + N) Q (F0 m (pc + 2) ls (.ref q :: rest))) : W p l e R s m args below meth c H locs cells slots Q (F0 m pc ls (.int (nI N) :: rest)) := by
  refine va_newa (atype := .long) (ty := .long) (N' := N) (a0 := (N, .inr (.inl (fun _ => 0)))) hx hb harr rfl hK hP hD hS hA (fun _ => rfl) (nI_pos (by omega)) (nI_clamp (by omega)) (by show N * 8 ≤ _; omega) hcells hslots hdg (fun q cA H1 hK1 hP1 hD1 hS1 => ?_)
  have e1 : cA = k 3 := Option.some.inj (((hK1.2 5 _ rfl).2 : _ = _).symm.trans ((hK.2 3 _ rfl).2 : _ = _))
  subst e1
  exact kk q H1 hP1 hD1 hS1
theorem n_newD {N : Nat} {H0 : Heap} (hx : p.tables.exec = Jvm.exec) (hb : c.code = cc) (harr : (Cond.arrayClass .double).before args s = true) (hK : va_K G vwCl (tyG k) s) (hP : va_P G vwCl ws H) (hD : va_D A ws) (hS : va_S A H0 H locs) (hA : ∀ q, H0.size ≤ q → A q) (hN : N < 65536) (hcells : cells + 1 ≤ R.cells) (hslots : slots + N ≤ R.slots) (hdg : decode cc pc = .ok (.newarray .double, 2))
    (kk : ∀ (q : Nat) (H1 : Heap), va_P G vwCl (ws ++ [(q, .inl (k 4, N, .inr (.inr (.inr (.inl (fun _ => 0))))))]) H1 → va_D A (ws ++ [(q, .inl (k 4, N, .inr (.inr (.inr (.inl (fun _ => 0))))))]) → va_S A H0 H1 locs → W p l e R s m args below meth c H1 locs (cells + 1) (slots + N) Q (F0 m (pc + 2) ls (.ref q :: rest))) : W p l e R s m args below meth c H locs cells slots Q (F0 m pc ls (.int (nI N) :: rest)) := by
  refine va_newa (atype := .double) (ty := .double) (N' := N) (a0 := (N, .inr (.inr (.inr (.inl (fun _ => 0)))))) hx hb harr rfl hK hP hD hS hA (fun _ => rfl) (nI_pos (by omega)) (nI_clamp (by omega)) (by show N * 8 ≤ _; omega) hcells hslots hdg (fun q cA H1 hK1 hP1 hD1 hS1 => ?_)
  have e1 : cA = k 4 := Option.some.inj (((hK1.2 5 _ rfl).2 : _ = _).symm.trans ((hK.2 4 _ rfl).2 : _ = _))
  subst e1
  exact kk q H1 hP1 hD1 hS1
/-- the script is read -/
theorem s_ld {b L i : Nat} {xs : Nat → Int32} (hx : p.tables.exec = Jvm.exec) (hb : c.code = cc) (hX : va_X b L xs s s.heap) (hbl : b < s.heap.size) (hbA : ¬ A b) (hS : va_S A s.heap H locs) (hin : i < L) (hL : L < 2 ^ 31) (hdg : decode cc pc = .ok (.iaload, 1))
    (kk : W p l e R s m args below meth c H locs cells slots Q (F0 m (pc + 1) ls (.int (xs i) :: rest))) : W p l e R s m args below meth c H locs cells slots Q (F0 m pc ls (.int (nI i) :: .ref b :: rest)) :=
  va_sld hx hb hX hbl hbA hS (vp_in_nI hin hL) hdg (by rw [nI_clamp (Nat.lt_trans hin hL)]; exact kk)
end BCALLS
abbrev outL (k : Nat → ClassId) (oL : Nat) (fo : Nat → Int64) : va_W := [(oL, .inl (k 3, 1, .inr (.inl fo)))]
abbrev outD (k : Nat → ClassId) (oD : Nat) (fd : Nat → UInt64) : va_W := [(oD, .inl (k 4, 1, .inr (.inr (.inr (.inl fd)))))]
/-- the class, the reference, the two rows for answers -/
def lawW (k : Nat → ClassId) (a b : Nat → Nat) (oL oD : Nat) (σ : Sg) (x : Cx) (τ : Sg) (y : Mx) (fo : Nat → Int64) (fd : Nat → UInt64) : va_W := clW k b σ x ++ (moW k a τ y ++ (outL k oL fo ++ outD k oD fd))
section PERMS
variable {k : Nat → ClassId} {a b : Nat → Nat} {oL oD : Nat} {σ : Sg} {x : Cx} {τ : Sg} {y : Mx} {fo : Nat → Int64} {fd : Nat → UInt64}
theorem pC : (lawW k a b oL oD σ x τ y fo fd).Perm (clW k b σ x ++ (moW k a τ y ++ (outL k oL fo ++ outD k oD fd))) := List.Perm.refl _
theorem pM : (lawW k a b oL oD σ x τ y fo fd).Perm (moW k a τ y ++ (clW k b σ x ++ (outL k oL fo ++ outD k oD fd))) := List.perm_append_comm_assoc _ _ _
theorem pL : (lawW k a b oL oD σ x τ y fo fd).Perm ((clW k b σ x ++ outL k oL fo) ++ (moW k a τ y ++ outD k oD fd)) := by
  unfold lawW
  rw [List.append_assoc]
  exact List.Perm.append_left _ (List.perm_append_comm_assoc _ _ _)
theorem pD : (lawW k a b oL oD σ x τ y fo fd).Perm ((clW k b σ x ++ outD k oD fd) ++ (moW k a τ y ++ outL k oL fo)) := by
  unfold lawW
  rw [List.append_assoc]
  exact List.Perm.append_left _ ((List.Perm.append_left _ List.perm_append_comm).trans (List.perm_append_comm_assoc _ _ _))
end PERMS
theorem lg_same (x : Int64) : lg_cmp x x = 0 := by simp [lg_cmp]
theorem e_add_lt {σ : Sg} {x y : Int32} : e_add σ x y < 2147483648 := by
  unfold e_add
  repeat' split
  all_goals decide
theorem e_rel_lt {σ : Sg} {x y : Int32} : e_rel σ x y < 2147483648 := by
  unfold e_rel
  repeat' split
  all_goals decide
theorem e_wor_lt {σ : Sg} {x y z : Int32} : e_wor σ x y z < 2147483648 := by
  unfold e_wor
  repeat' split
  all_goals decide
theorem e_con_lt {σ : Sg} {x y z : Int32} : e_con σ x y z < 2147483648 := by
  unfold e_con
  repeat' split
  all_goals decide
theorem e_trn_lt {σ : Sg} {x : Int32} : e_trn σ x < 2147483648 := by
  unfold e_trn e_if
  repeat' split
  all_goals decide
theorem e_drp_lt {σ : Sg} : e_drp σ < 2147483648 := by
  unfold e_drp
  repeat' split
  all_goals decide
theorem e_dec_lt {σ : Sg} {x y : Int32} : e_dec σ x y < 2147483648 := by
  unfold e_dec
  repeat' split
  all_goals decide
theorem e_bud_lt {x : Int32} : e_bud x < 2147483648 := by
  unfold e_bud
  repeat' split
  all_goals decide
theorem e_cfg_lt {σ : Sg} {x : Int32} : e_cfg σ x < 2147483648 := by
  unfold e_cfg e_if
  repeat' split
  all_goals decide
theorem e_fea_lt {σ : Sg} {x : Int32} : e_fea σ x < 2147483648 := by
  unfold e_fea e_if
  repeat' split
  all_goals decide
theorem e_two_lt {σ : Sg} {x y : Int32} : e_two σ x y < 2147483648 := by
  unfold e_two e_if
  repeat' split
  all_goals decide
theorem e_if_lt {b : Bool} : e_if b < 2147483648 := by
  unfold e_if
  split
  all_goals decide
/-- a double's comparisons with itself -/
theorem gw_mk {ws : List Cond} (h1 : ∀ w ∈ ws, w ∈ lw_tbl) (h2 : ws.all goodWord = true) : GoodIn lw_tbl ws := fun w hw => ⟨h1 w hw, good_of_word (List.all_eq_true.mp h2 w hw)⟩
