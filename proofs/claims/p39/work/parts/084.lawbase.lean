/-! calls with a block of the world, for p39 (written by wip/p39/gen_base39.py) -/
section BCALLS
variable {p : Program} {l : Launch} {e : Env} {R : Room} {s : State} {m : MethodId} {args : Array Value} {below : List Frame} {meth : Method} {c : Code} {H : Heap} {locs : List Loc} {cells slots mc ms : Nat} {Q : State → Prop}
variable {cc : ByteArray} {pc nL : Nat} {ls : Array Slot} {rest st0 : List Value} {G : va_G} {k : Nat → ClassId} {A : Nat → Prop} {ws wc wr : va_W} {S : Type} {wout wn : S → va_W}
variable {y : MethodName} {bytes : ByteArray} {maxL n index : Nat} {ret : Option FieldType} {hh : List (Nat × Nat × Nat × Nat)} {wy wy' : List Cond} {rm : Room} {Ts : List Cond} {own C : String} {b : Addr} {As : List Value}
theorem bV_i {post : Int32 → S → Prop} (S9 : CallFix p m c cc nL s args Ts own) (hP : va_P G vwCl ws H) (hK : va_K G vwCl (tyG k) s) (hN : gN s) (hD : va_D A ws) (hS : va_S A s.heap H locs) (hA : ∀ q, s.heap.size ≤ q → A q)
    (hM : Met l y wy rm (va_Pc (.ref b :: As) (Wm G k wc H.size)) (va_Qi post (Bm G k (va_A wc H.size) wout) (va_A wc H.size)) mc ms (va_A wc H.size)) (hG : GoodIn Ts (wsV own index C y wy)) (hw : wy = Cond.code y bytes maxL ret :: wy') (hrc : rm.cells = mc) (hrs : rm.slots = ms) (hd : y.cls = C ∧ y.cls ≠ "java/lang/invoke/MethodHandle" ∧ y.cls ≠ "java/lang/invoke/VarHandle" ∧ (parseMethodDescriptor y.desc).map (fun d => d.parameters.length) = some n) (hR1 : Nat.ble (rm.frames + 1) R.frames = true) (hR2 : Nat.ble (8 + (maxL + 11) + rm.locals) R.locals = true)
    (hp1 : ws.Perm (wc ++ wr)) (hp2 : ∀ u, (wout u ++ wr).Perm (wn u)) (ci q0 : Nat) {fs : List Value} {x : vw_C} (hc : vwCl[ci]? = some x) (hx1 : x.1 = C) (he : wc[q0]? = some (b, .inr (ci, fs)))
    (hn : As.length = n) (hl : ls.size = nL) (hst : st0 = As.reverse ++ .ref b :: rest) (hrest : Nat.ble ((rest.map fun v => v.category).sum) 8 = true) (hf : cells + mc ≤ R.cells ∧ slots + ms ≤ R.slots) (hdg : decode cc pc = .ok (.invokevirtual index, 3))
    (kk : ∀ (r : Int32) (u : S) (H1 : Heap) (locs1 : List Loc), post r u → va_P G vwCl (wn u) H1 → va_D A (wn u) → va_S A s.heap H1 locs1 → W p l e R s m args below meth c H1 locs1 (cells + mc) (slots + ms) Q (F0 m (pc + 3) ls (.int r :: rest))) : W p l e R s m args below meth c H locs cells slots Q (F0 m pc ls st0) := by
  have hP' := P_perm hp1 hP
  have hD' := D_perm hp1 hD
  have hPc := P_l hP'
  have hDc := (D_app.mp hD').1
  have hFc := blk_free hD' hS hA
  refine va_calli (va_runV (As := As) (rest := rest) S9 hM (cwV n S9.2.2.2.2 hG hw hrc hrs hd ⟨Nat.le_of_ble_eq_true hR1, Nat.le_of_ble_eq_true hR2⟩) ⟨Wm.blind, (by rw [← hx1]; exact va_recv hK hPc hc he), fun U hU hW => ⟨rfl, (by rw [hU]), (by rw [hU]; exact hPc), va_K.moved hW.alike hK, gN.warm hW hN, hDc.weaken (fun _ _ _ _ => trivial)⟩⟩ rfl hn hl hst (lv_room (Nat.le_of_ble_eq_true hrest)) hdg hf) hS (fun q _ h => hFc q h) hFc (fun r u t H1 locs1 ht hvm hw9 hB hz1 hk1 hS1 => ?_)
  obtain ⟨hP1, hK1, hD1⟩ := hB
  rw [ht] at hP1
  obtain ⟨a1, a2⟩ := blk_call hP' hD' hk1 hFc hP1 hD1
  exact kk r u H1 locs1 hw9 (P_perm (hp2 u) a1) (D_perm (hp2 u) a2) hS1
theorem bW_i {post : Int32 → S → Prop} (S9 : CallFix p m c cc nL s args Ts own) (hP : va_P G vwCl ws H) (hK : va_K G vwCl (tyG k) s) (hN : gN s) (hE : xE A s) (hD : va_D A ws) (hS : va_S A s.heap H locs) (hA : ∀ q, s.heap.size ≤ q → A q)
    (hM : Met l y wy rm (va_Pc (.ref b :: As) (Wx G k wc H.size)) (va_Qi post (Bm G k (va_A wc H.size) wout) (va_A wc H.size)) mc ms (va_A wc H.size)) (hG : GoodIn Ts (wsV own index C y wy)) (hw : wy = Cond.code y bytes maxL ret :: wy') (hrc : rm.cells = mc) (hrs : rm.slots = ms) (hd : y.cls = C ∧ y.cls ≠ "java/lang/invoke/MethodHandle" ∧ y.cls ≠ "java/lang/invoke/VarHandle" ∧ (parseMethodDescriptor y.desc).map (fun d => d.parameters.length) = some n) (hR1 : Nat.ble (rm.frames + 1) R.frames = true) (hR2 : Nat.ble (8 + (maxL + 11) + rm.locals) R.locals = true)
    (hp1 : ws.Perm (wc ++ wr)) (hp2 : ∀ u, (wout u ++ wr).Perm (wn u)) (ci q0 : Nat) {fs : List Value} {x : vw_C} (hc : vwCl[ci]? = some x) (hx1 : x.1 = C) (he : wc[q0]? = some (b, .inr (ci, fs)))
    (hn : As.length = n) (hl : ls.size = nL) (hst : st0 = As.reverse ++ .ref b :: rest) (hrest : Nat.ble ((rest.map fun v => v.category).sum) 8 = true) (hf : cells + mc ≤ R.cells ∧ slots + ms ≤ R.slots) (hdg : decode cc pc = .ok (.invokevirtual index, 3))
    (kk : ∀ (r : Int32) (u : S) (H1 : Heap) (locs1 : List Loc), post r u → va_P G vwCl (wn u) H1 → va_D A (wn u) → va_S A s.heap H1 locs1 → W p l e R s m args below meth c H1 locs1 (cells + mc) (slots + ms) Q (F0 m (pc + 3) ls (.int r :: rest))) : W p l e R s m args below meth c H locs cells slots Q (F0 m pc ls st0) := by
  have hP' := P_perm hp1 hP
  have hD' := D_perm hp1 hD
  have hPc := P_l hP'
  have hDc := (D_app.mp hD').1
  have hFc := blk_free hD' hS hA
  refine va_calli (va_runV (As := As) (rest := rest) S9 hM (cwV n S9.2.2.2.2 hG hw hrc hrs hd ⟨Nat.le_of_ble_eq_true hR1, Nat.le_of_ble_eq_true hR2⟩) ⟨Wx.blind, (by rw [← hx1]; exact va_recv hK hPc hc he), fun U hU hW => ⟨rfl, ⟨(by rw [hU]), (by rw [hU]; exact hPc), va_K.moved hW.alike hK, gN.warm hW hN, hDc.weaken (fun _ _ _ _ => trivial)⟩, xE.to hW (fun a h1 h2 => by rw [hU]; exact hS.2.1 a h1 h2) hFc hE⟩⟩ rfl hn hl hst (lv_room (Nat.le_of_ble_eq_true hrest)) hdg hf) hS (fun q _ h => hFc q h) hFc (fun r u t H1 locs1 ht hvm hw9 hB hz1 hk1 hS1 => ?_)
  obtain ⟨hP1, hK1, hD1⟩ := hB
  rw [ht] at hP1
  obtain ⟨a1, a2⟩ := blk_call hP' hD' hk1 hFc hP1 hD1
  exact kk r u H1 locs1 hw9 (P_perm (hp2 u) a1) (D_perm (hp2 u) a2) hS1
theorem bI_v {post : S → Prop} (S9 : CallFix p m c cc nL s args Ts own) (hP : va_P G vwCl ws H) (hK : va_K G vwCl (tyG k) s) (hN : gN s) (hD : va_D A ws) (hS : va_S A s.heap H locs) (hA : ∀ q, s.heap.size ≤ q → A q)
    (hM : Met l y wy rm (va_Pc (.ref b :: As) (Wm G k wc H.size)) (va_Qv post (Bm G k (va_A wc H.size) wout) (va_A wc H.size)) mc ms (va_A wc H.size)) (hG : GoodIn Ts wy) (hini : Cond.initialized y.cls ∈ Ts) (hlk : Cond.methodLink own index y ∈ Ts) (hin : Cond.instanceMethod y ∈ Ts) (hnm : y.name = "<init>") (hw : wy = Cond.code y bytes maxL none :: wy') (hrc : rm.cells = mc) (hrs : rm.slots = ms) (hd : y.cls ≠ "java/lang/invoke/MethodHandle" ∧ y.cls ≠ "java/lang/invoke/VarHandle" ∧ (parseMethodDescriptor y.desc).map (fun d => d.parameters.length) = some n) (hR1 : Nat.ble (rm.frames + 1) R.frames = true) (hR2 : Nat.ble (8 + (maxL + 11) + rm.locals) R.locals = true)
    (hp1 : ws.Perm (wc ++ wr)) (hp2 : ∀ u, (wout u ++ wr).Perm (wn u))
    (hn : As.length = n) (hl : ls.size = nL) (hst : st0 = As.reverse ++ .ref b :: rest) (hrest : Nat.ble ((rest.map fun v => v.category).sum) 8 = true) (hf : cells + mc ≤ R.cells ∧ slots + ms ≤ R.slots) (hdg : decode cc pc = .ok (.invokespecial index, 3))
    (kk : ∀ (u : S) (H1 : Heap) (locs1 : List Loc), post u → va_P G vwCl (wn u) H1 → va_D A (wn u) → va_S A s.heap H1 locs1 → W p l e R s m args below meth c H1 locs1 (cells + mc) (slots + ms) Q (F0 m (pc + 3) ls rest)) : W p l e R s m args below meth c H locs cells slots Q (F0 m pc ls st0) := by
  have hP' := P_perm hp1 hP
  have hD' := D_perm hp1 hD
  have hPc := P_l hP'
  have hDc := (D_app.mp hD').1
  have hFc := blk_free hD' hS hA
  refine va_callv (va_runI (As := As) (rest := rest) S9 hM (cwI n S9.2.2.2.2 hG hw hrc hrs (S9.2.2.2.2 _ hini) (S9.2.2.2.2 _ hlk) (S9.2.2.2.2 _ hin) hnm hd ⟨Nat.le_of_ble_eq_true hR1, Nat.le_of_ble_eq_true hR2⟩) ⟨Wm.blind, fun U hU hW => ⟨rfl, (by rw [hU]), (by rw [hU]; exact hPc), va_K.moved hW.alike hK, gN.warm hW hN, hDc.weaken (fun _ _ _ _ => trivial)⟩⟩ rfl hn hl hst (lv_room (Nat.le_of_ble_eq_true hrest)) hdg hf) hS (fun q _ h => hFc q h) hFc (fun u t H1 locs1 ht hvm hw9 hB hz1 hk1 hS1 => ?_)
  obtain ⟨hP1, hK1, hD1⟩ := hB
  rw [ht] at hP1
  obtain ⟨a1, a2⟩ := blk_call hP' hD' hk1 hFc hP1 hD1
  exact kk u H1 locs1 hw9 (P_perm (hp2 u) a1) (D_perm (hp2 u) a2) hS1
/-- what build may count on: the class, its rows, the script -/
def Wb (G : va_G) (k : Nat → ClassId) (wc : va_W) (bS L : Nat) (xs : Nat → Int32) (sz : Nat) (U : State) : Prop := Wx G k wc sz U ∧ va_X bS L xs U U.heap ∧ ¬ va_A wc sz bS
theorem Wb.blind {G : va_G} {k : Nat → ClassId} {wc : va_W} {bS L : Nat} {xs : Nat → Int32} {sz : Nat} {av : List Value} : FrameBlind (va_Pc av (Wb G k wc bS L xs sz)) := fun a U g mk h => ⟨h.1, (Wx.blind a U g mk ⟨h.1, h.2.1⟩).2, va_X.moved (u := U) (Vm.Alike.refl U.vm) h.2.2.1, h.2.2.2⟩
theorem bB_i {bS L : Nat} {xs : Nat → Int32} {post : Int32 → S → Prop} (S9 : CallFix p m c cc nL s args Ts own) (hX : va_X bS L xs s s.heap) (hbl : bS < s.heap.size) (hbA : ¬ A bS) (hP : va_P G vwCl ws H) (hK : va_K G vwCl (tyG k) s) (hN : gN s) (hE : xE A s) (hD : va_D A ws) (hS : va_S A s.heap H locs) (hA : ∀ q, s.heap.size ≤ q → A q)
    (hM : Met l y wy rm (va_Pc As (Wb G k wc bS L xs H.size)) (va_Qi post (Bm G k (va_A wc H.size) wout) (va_A wc H.size)) mc ms (va_A wc H.size)) (hG : GoodIn Ts (va_wsS own index y wy)) (hw : wy = Cond.code y bytes maxL ret :: wy') (hrc : rm.cells = mc) (hrs : rm.slots = ms) (hd : y.cls ≠ "java/lang/invoke/MethodHandle" ∧ y.cls ≠ "java/lang/invoke/VarHandle" ∧ (parseMethodDescriptor y.desc).map (fun d => d.parameters.length) = some n) (hR1 : Nat.ble (rm.frames + 1) R.frames = true) (hR2 : Nat.ble (8 + (maxL + 11) + rm.locals) R.locals = true)
    (hp1 : ws.Perm (wc ++ wr)) (hp2 : ∀ u, (wout u ++ wr).Perm (wn u))
    (hn : As.length = n) (hl : ls.size = nL) (hst : st0 = As.reverse ++ rest) (hrest : Nat.ble ((rest.map fun v => v.category).sum) 8 = true) (hf : cells + mc ≤ R.cells ∧ slots + ms ≤ R.slots) (hdg : decode cc pc = .ok (.invokestatic index, 3))
    (kk : ∀ (r : Int32) (u : S) (H1 : Heap) (locs1 : List Loc), post r u → va_P G vwCl (wn u) H1 → va_D A (wn u) → va_S A s.heap H1 locs1 → W p l e R s m args below meth c H1 locs1 (cells + mc) (slots + ms) Q (F0 m (pc + 3) ls (.int r :: rest))) : W p l e R s m args below meth c H locs cells slots Q (F0 m pc ls st0) := by
  have hP' := P_perm hp1 hP
  have hD' := D_perm hp1 hD
  have hPc := P_l hP'
  have hDc := (D_app.mp hD').1
  have hFc := blk_free hD' hS hA
  refine va_calli (va_runS (As := As) (rest := rest) S9 hM (va_cwS n S9.2.2.2.2 hG hw hrc hrs hd ⟨Nat.le_of_ble_eq_true hR1, Nat.le_of_ble_eq_true hR2⟩) ⟨Wb.blind, fun U hU hW => ⟨rfl, ⟨⟨(by rw [hU]), (by rw [hU]; exact hPc), va_K.moved hW.alike hK, gN.warm hW hN, hDc.weaken (fun _ _ _ _ => trivial)⟩, xE.to hW (fun a h1 h2 => by rw [hU]; exact hS.2.1 a h1 h2) hFc hE⟩, (by rw [hU]; exact (hX.kept (hS.2.1 bS hbl hbA)).moved hW.alike), fun z => hbA (hFc bS z)⟩⟩ rfl hn hl hst (lv_room (Nat.le_of_ble_eq_true hrest)) hdg hf) hS (fun q _ h => hFc q h) hFc (fun r u t H1 locs1 ht hvm hw9 hB hz1 hk1 hS1 => ?_)
  obtain ⟨hP1, hK1, hD1⟩ := hB
  rw [ht] at hP1
  obtain ⟨a1, a2⟩ := blk_call hP' hD' hk1 hFc hP1 hD1
  exact kk r u H1 locs1 hw9 (P_perm (hp2 u) a1) (D_perm (hp2 u) a2) hS1
/-- a call that reads the script alone -/
theorem cS_x {bS L : Nat} {xs : Nat → Int32} {post : Int32 → Prop} (S9 : CallFix p m c cc nL s args Ts own) (hX : va_X bS L xs s s.heap) (hbl : bS < s.heap.size) (hbA : ¬ A bS) (hS : va_S A s.heap H locs) (hM : Met l y wy rm (va_Pc As (fun U => va_X bS L xs U U.heap)) (vp_Si post) 0 0 (fun _ => False)) (hG : GoodIn Ts (va_wsS own index y wy)) (hw : wy = Cond.code y bytes maxL ret :: wy') (hrc : rm.cells = 0) (hrs : rm.slots = 0) (hd : y.cls ≠ "java/lang/invoke/MethodHandle" ∧ y.cls ≠ "java/lang/invoke/VarHandle" ∧ (parseMethodDescriptor y.desc).map (fun d => d.parameters.length) = some n) (hR1 : Nat.ble (rm.frames + 1) R.frames = true) (hR2 : Nat.ble (8 + (maxL + 11) + rm.locals) R.locals = true)
    (hn : As.length = n) (hl : ls.size = nL) (hst : st0 = As.reverse ++ rest) (hrest : Nat.ble ((rest.map fun v => v.category).sum) 8 = true) (hf : cells ≤ R.cells ∧ slots ≤ R.slots) (hdg : decode cc pc = .ok (.invokestatic index, 3))
    (kk : ∀ r : Int32, post r → W p l e R s m args below meth c H locs cells slots Q (F0 m (pc + 3) ls (.int r :: rest))) : W p l e R s m args below meth c H locs cells slots Q (F0 m pc ls st0) :=
  vp_callSi (W.runS (As := As) (rest := rest) S9 hM (va_cwS n S9.2.2.2.2 hG hw hrc hrs hd ⟨Nat.le_of_ble_eq_true hR1, Nat.le_of_ble_eq_true hR2⟩) ⟨fun a U g mk h => ⟨h.1, va_X.moved (u := U) (Vm.Alike.refl U.vm) h.2⟩, fun U hU hW => ⟨rfl, (by show va_X bS L xs U U.heap; rw [hU]; exact (hX.kept (hS.2.1 bS hbl hbA)).moved hW.alike)⟩⟩ rfl hn hl hst (lv_room (Nat.le_of_ble_eq_true hrest)) hdg hf) kk
end BCALLS
/-- cell: some number -/
theorem m_L_cell (l : Launch) (bS L : Nat) (xs : Nat → Int32) (hL : L ≤ 260) (j : Nat) (hj : j < 1000) : Met l yL_cell wsL_cell ({ frames := 0, cells := 0, slots := 0, locals := 0 } : Room) (va_Pc [.ref bS, .int (nI j)] (fun U => va_X bS L xs U U.heap)) (vp_Si (fun _ => True)) 0 0 (fun _ => False) := by
  refine met_mk (cc := cL_cell) (maxL := 2) (ret := some .int) (by decide) rfl rfl ?_
  intro p e s m below meth c S hr hlk hnm hX ls hl
  obtain ⟨hx, hb, hml, hown, hts⟩ := id S
  have hown : s.vm.findClass RL = some m.cls := hown
  have hbl : bS < s.heap.size := by obtain ⟨scr, h1, -⟩ := hX; exact (Array.getElem?_eq_some_iff.mp h1).1
  have hS : va_S (fun _ => False) s.heap s.heap [] := va_S.rf
  have hl : lv_has ls 2 [(0, .ref bS), (1, .int (nI j))] := hl
  have lk : (Cond.constant RL 8 (790386105)).before _ s = true := hts _ (List.mem_cons_of_mem _ (List.mem_of_getElem? (i := 0) rfl))
  refine lv_iload_n hx hb dL_cell_0 rfl (lv_at hl 1 rfl) ?_
  refine lv_aload_n hx hb dL_cell_1 rfl (lv_at hl 0 rfl) ?_
  refine va_slen hx hb hX hbl (fun z => z) hS dL_cell_2 ?_
  refine n_icmp_ge (a := j) (b := L) (by omega) (by omega) (tgt := 12) hx hb dL_cell_3 (by decide) (fun q => ?_) (fun q => ?_)
  · refine lv_ldc hx hb hown lk dL_cell_12 ?_
    refine lv_iload_n hx hb dL_cell_14 rfl (lv_at hl 1 rfl) ?_
    refine n_iconst 3 (by decide) hx hb dL_cell_15 ?_
    refine n_iadd hx hb dL_cell_16 ?_
    refine lv_imul hx hb dL_cell_17 ?_
    exact e_pure hx hb hr hlk trivial dL_cell_18
  · refine lv_aload_n hx hb dL_cell_6 rfl (lv_at hl 0 rfl) ?_
    refine lv_iload_n hx hb dL_cell_7 rfl (lv_at hl 1 rfl) ?_
    refine s_ld (i := j) hx hb hX hbl (fun z => z) hS q (by omega) dL_cell_8 ?_
    refine lv_goto (tgt := 18) hx hb dL_cell_9 (by decide) ?_
    exact e_pure hx hb hr hlk trivial dL_cell_18
theorem gw_mk {ws : List Cond} (h1 : ∀ w ∈ ws, w ∈ lw_tbl) (h2 : ws.all goodWord = true) : GoodIn lw_tbl ws := fun w hw => ⟨h1 w hw, good_of_word (List.all_eq_true.mp h2 w hw)⟩
/-- the rows of features, of constraints, of counts -/
abbrev a3 (k : Nat → ClassId) (oR oC oN : Nat) (fr fc fn : Nat → Int32) : va_W := [(oR, .inl (k 0, 60, .inl fr)), (oC, .inl (k 0, 40, .inl fc)), (oN, .inl (k 0, 3, .inl fn))]
/-- the model that was built -/
def BOK (σ : Sg) (fr fc fn : Nat → Int32) : Prop := sN σ ≤ 7 ∧ sK σ ≤ 4 ∧ (sU σ = -1 ∨ 0 ≤ sU σ) ∧ fn 0 = nI (sN σ) ∧ fn 1 = nI (sK σ) ∧ fn 2 = sU σ ∧ (∀ f, f < sN σ → fr (5 * f + 2) = nI (sC σ f)) ∧ (∀ f, f < sN σ → fr (5 * f + 4) = nI (sD σ f)) ∧ ∀ i, i < sK σ → fc (4 * i + 3) = bI (sO σ i)
