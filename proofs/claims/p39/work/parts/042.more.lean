/-! new arrays, contents said otherwise, max and abs in numbers -/
theorem arrV_ext {cA : ClassId} {n : Nat} {f g : Nat → Value} (h : ∀ j, j < n → f j = g j) : arrV cA n f = arrV cA n g := by
  unfold arrV
  congr 1
  apply Array.ext_getElem?
  intro i
  rcases Nat.lt_or_ge i n with q | q
  · simp [q, h i q]
  · simp [Nat.not_lt.mpr q]
theorem va_P_re {G : va_G} {ws ws' : va_W} {H : Heap} {a n : Nat} {cA : ClassId} {f g : Nat → Int32} (h : va_P G vwCl ws H) (q0 : Nat) (ha : ws[q0]? = some (a, .inl (cA, n, .inl f))) (hfg : ∀ j, j < n → f j = g j) (hw : ws.set q0 (a, .inl (cA, n, .inl g)) = ws') : va_P G vwCl ws' H := by
  intro i q hi
  rw [← hw] at hi
  have hl : q0 < ws.length := (List.getElem?_eq_some_iff.mp ha).1
  by_cases hq : i = q0
  · subst hq
    rw [List.getElem?_set_self hl] at hi
    cases hi
    have h1 := h i _ ha
    show H[a]? = some (vp_cell cA (n, .inl g))
    rw [vp_cell_i, ← arrV_ext (fun j hj => congrArg Value.int (hfg j hj))]
    exact h1
  · rw [List.getElem?_set_ne (Ne.symm hq)] at hi
    exact h i q hi
theorem va_D_re {A : Nat → Prop} {ws ws' : va_W} {q0 a : Nat} {e0 e : va_E} (h : va_D A ws) (ha : ws[q0]? = some (a, e0)) (hw : ws.set q0 (a, e) = ws') : va_D A ws' := by
  rw [← hw]; exact h.set ha
section MORE
variable {p : Program} {l : Launch} {e : Env} {R : Room} {s : State} {m : MethodId} {args : Array Value} {below : List Frame} {meth : Method} {c : Code} {H : Heap} {locs : List Loc} {cells slots : Nat} {Q : State → Prop}
variable {cc : ByteArray} {pc : Nat} {ls : Array Slot} {rest : List Value} {G : va_G} {k : Nat → ClassId} {A : Nat → Prop} {H0 : Heap} {ws : va_W}
theorem n_top {x : Nat} (kk : ∀ y : Nat, y = x → W p l e R s m args below meth c H locs cells slots Q (F0 m pc ls (.int (nI y) :: rest))) : W p l e R s m args below meth c H locs cells slots Q (F0 m pc ls (.int (nI x) :: rest)) := kk x rfl
theorem b_top {x : Bool} (kk : ∀ y : Bool, y = x → W p l e R s m args below meth c H locs cells slots Q (F0 m pc ls (.int (bI y) :: rest))) : W p l e R s m args below meth c H locs cells slots Q (F0 m pc ls (.int (bI x) :: rest)) := kk x rfl
theorem n_newI {N : Nat} (hx : p.tables.exec = Jvm.exec) (hb : c.code = cc) (harr : (Cond.arrayClass .int).before args s = true) (hK : va_K G vwCl (tyG k) s) (hP : va_P G vwCl ws H) (hD : va_D A ws) (hS : va_S A H0 H locs) (hA : ∀ q, H0.size ≤ q → A q) (hN : N < 65536) (hcells : cells + 1 ≤ R.cells) (hslots : slots + N ≤ R.slots) (hdg : decode cc pc = .ok (.newarray .int, 2))
    (kk : ∀ (q : Nat) (H1 : Heap), va_P G vwCl (ws ++ [(q, .inl (k 0, N, .inl (nA (fun _ => 0))))]) H1 → va_D A (ws ++ [(q, .inl (k 0, N, .inl (nA (fun _ => 0))))]) → va_S A H0 H1 locs → W p l e R s m args below meth c H1 locs (cells + 1) (slots + N) Q (F0 m (pc + 2) ls (.ref q :: rest))) : W p l e R s m args below meth c H locs cells slots Q (F0 m pc ls (.int (nI N) :: rest)) := by
  refine va_newa (atype := .int) (ty := .int) (N' := N) (a0 := (N, .inl (nA (fun _ => 0)))) hx hb harr rfl hK hP hD hS hA (fun _ => rfl) (nI_pos (by omega)) (nI_clamp (by omega)) (by show N * 4 ≤ _; omega) hcells hslots hdg (fun q cA H1 hK1 hP1 hD1 hS1 => ?_)
  have e1 : cA = k 0 := Option.some.inj (((hK1.2 5 _ rfl).2 : _ = _).symm.trans ((hK.2 0 _ rfl).2 : _ = _))
  subst e1
  exact kk q H1 hP1 hD1 hS1
theorem n_max {own : String} {index : Nat} (hx : p.tables.exec = Jvm.exec) (hb : c.code = cc) (hml : c.maxLocals = ls.size) (hown : s.vm.findClass own = some m.cls) (hlink : (Cond.methodLink own index Lib.Math.max.name).before args s = true) (hstat : (Cond.static Lib.Math.max.name).before args s = true) (hini : (Cond.initialized "java/lang/Math").before args s = true) (hcode : (Cond.code Lib.Math.max.name Lib.Math.max.code 2 (some .int)).before args s = true)
    (hR1 : Nat.ble 1 R.frames = true) (hR2 : Nat.ble ((rest.map fun v => v.category).sum + 13) R.locals = true) (hc : cells ≤ R.cells) (hs : slots ≤ R.slots) {x y : Int32} (hdg : decode cc pc = .ok (.invokestatic index, 3))
    (kk : W p l e R s m args below meth c H locs cells slots Q (F0 m (pc + 3) ls (.int (if x < y then y else x) :: rest))) : W p l e R s m args below meth c H locs cells slots Q (F0 m pc ls (.int y :: .int x :: rest)) :=
  va_mmax hx hb hml hown hlink hstat hini hcode (Nat.le_of_ble_eq_true hR1) (Nat.le_of_ble_eq_true hR2) hc hs hdg kk
theorem n_abs {own : String} {index : Nat} (hx : p.tables.exec = Jvm.exec) (hb : c.code = cc) (hml : c.maxLocals = ls.size) (hown : s.vm.findClass own = some m.cls) (hlink : (Cond.methodLink own index Lib.Math.abs.name).before args s = true) (hstat : (Cond.static Lib.Math.abs.name).before args s = true) (hini : (Cond.initialized "java/lang/Math").before args s = true) (hcode : (Cond.code Lib.Math.abs.name Lib.Math.abs.code 1 (some .int)).before args s = true)
    (hR1 : Nat.ble 1 R.frames = true) (hR2 : Nat.ble ((rest.map fun v => v.category).sum + 13) R.locals = true) (hc : cells ≤ R.cells) (hs : slots ≤ R.slots) {x : Int32} (hdg : decode cc pc = .ok (.invokestatic index, 3))
    (kk : W p l e R s m args below meth c H locs cells slots Q (F0 m (pc + 3) ls (.int (if 0 ≤ x then x else 0 - x) :: rest))) : W p l e R s m args below meth c H locs cells slots Q (F0 m pc ls (.int x :: rest)) :=
  va_mabs hx hb hml hown hlink hstat hini hcode (Nat.le_of_ble_eq_true hR1) (Nat.le_of_ble_eq_true hR2) hc hs hdg kk
end MORE
def mxI (x y : Int32) : Int32 := if x < y then y else x
/-- what the loops of the leaf methods make of an array -/
def fillI (f : Nat → Int32) (x : Int32) : Nat → Nat → Int32
  | 0 => f
  | i + 1 => upd (fillI f x i) i x
theorem fillI_at (f : Nat → Int32) (x : Int32) : ∀ i j, j < i → fillI f x i j = x
  | 0, j, h => absurd h (Nat.not_lt_zero j)
  | i + 1, j, h => by
    show (if j = i then x else fillI f x i j) = x
    split
    · rfl
    · exact fillI_at f x i j (by omega)
def levF (f : Nat → Int32) : Nat → Nat → Int32
  | 0 => f
  | i + 1 => upd (levF f i) (i + 1) (mxI (levF f i (i + 1)) (levF f i i))
theorem levF_succ (f : Nat → Int32) (i : Nat) : levF f (i + 1) = upd (levF f i) (i + 1) (mxI (levF f i (i + 1)) (levF f i i)) := rfl
def shwF (sh : Nat → Nat) (c n : Nat) : Nat → Nat → Nat
  | 0 => sh
  | i + 1 => va_up (shwF sh c n i) (litN i c) (shwF sh c n i (litN i c) ||| latN c n (i + 1))
theorem shwF_succ (sh : Nat → Nat) (c n i : Nat) : shwF sh c n (i + 1) = va_up (shwF sh c n i) (litN i c) (shwF sh c n i (litN i c) ||| latN c n (i + 1)) := rfl
def appCh (ch : Nat → Nat → Nat) (p r n : Nat) : Nat → Nat → Nat := va_up ch r (va_up (ch r) p (ch r p ||| 2 ^ n))
def relCh (ch : Nat → Nat → Nat) (b r p f : Nat) : Nat → Nat → Nat := va_up (va_up ch b (va_up (ch b) p (andn (ch b p) (2 ^ f)))) r (va_up ((va_up ch b (va_up (ch b) p (andn (ch b p) (2 ^ f)))) r) p ((va_up ch b (va_up (ch b) p (andn (ch b p) (2 ^ f)))) r p ||| 2 ^ f))
