/-! what makes objects and rows of rows -/
section NEWS
variable {p : Program} {l : Launch} {e : Env} {R : Room} {s : State} {m : MethodId} {args : Array Value} {below : List Frame} {meth : Method} {c : Code} {H : Heap} {locs : List Loc} {cells slots : Nat} {Q : State → Prop}
variable {cc : ByteArray} {pc : Nat} {ls : Array Slot} {rest : List Value} {G : va_G} {k : Nat → ClassId} {A : Nat → Prop} {ws : va_W} {H0 : Heap}
theorem n_oinit {own : String} {index a : Nat} (hx : p.tables.exec = Jvm.exec) (hb : c.code = cc) (hml : c.maxLocals = ls.size) (hown : s.vm.findClass own = some m.cls) (hlink : (Cond.methodLink own index objectInit).before args s = true) (hinst : (Cond.instanceMethod objectInit).before args s = true) (hcode : (Cond.code objectInit ⟨#[0xb1]⟩ 1 none).before args s = true)
    (hR1 : 1 ≤ R.frames) (hR2 : (rest.map fun v => v.category).sum + 12 ≤ R.locals) (hdg : decode cc pc = .ok (.invokespecial index, 3))
    (kk : W p l e R s m args below meth c H locs cells slots Q (F0 m (pc + 3) ls rest)) : W p l e R s m args below meth c H locs cells slots Q (F0 m pc ls (.ref a :: rest)) :=
  W.objInit hx hb hown hlink hinst hcode rfl hml.symm rfl hdg hR1 (by show 2 * 0 + (rest.map fun v => v.category).sum + 12 ≤ R.locals; omega) kk
theorem n_mna {own : String} {index : Nat} (hx : p.tables.exec = Jvm.exec) (hb : c.code = cc) (hown : s.vm.findClass own = some m.cls) (hcl : (Cond.classLink own index "[[I").before args s = true) (hover : (Cond.arrayOver (.array .int)).before args s = true) (harr : (Cond.arrayClass .int).before args s = true) (hK : va_K G vwCl (tyG k) s) (hP : va_P G vwCl ws H) (hD : va_D A ws) (hS : va_S A H0 H locs) (hA : ∀ q, H0.size ≤ q → A q)
    (hcells : cells + 5 ≤ R.cells) (hslots : slots + 52 ≤ R.slots) (hdg : decode cc pc = .ok (.multianewarray index 2, 4))
    (kk : ∀ (q r0 r1 r2 r3 : Nat) (H1 : Heap), va_P G vwCl (ws ++ [(q, .inl (k 2, 4, .inr (.inr (.inr (.inr (q4 r0 r1 r2 r3)))))), (r0, .inl (k 0, 12, .inl (nA (fun _ => 0)))), (r1, .inl (k 0, 12, .inl (nA (fun _ => 0)))), (r2, .inl (k 0, 12, .inl (nA (fun _ => 0)))), (r3, .inl (k 0, 12, .inl (nA (fun _ => 0))))]) H1 →
      va_D A (ws ++ [(q, .inl (k 2, 4, .inr (.inr (.inr (.inr (q4 r0 r1 r2 r3)))))), (r0, .inl (k 0, 12, .inl (nA (fun _ => 0)))), (r1, .inl (k 0, 12, .inl (nA (fun _ => 0)))), (r2, .inl (k 0, 12, .inl (nA (fun _ => 0)))), (r3, .inl (k 0, 12, .inl (nA (fun _ => 0))))]) → va_S A H0 H1 locs →
      W p l e R s m args below meth c H1 locs (cells + 5) (slots + 52) Q (F0 m (pc + 4) ls (.ref q :: rest))) : W p l e R s m args below meth c H locs cells slots Q (F0 m pc ls (.int (nI 12) :: .int (nI 4) :: rest)) := by
  have e0 : ws ++ va_pl [] (fun _ => (.inl (k 0, 0, .inl (nA (fun _ => 0))) : va_E)) = ws := List.append_nil ws
  refine va_mna (X := ws) (L := []) (f := fun _ => .inl (k 0, 0, .inl (nA (fun _ => 0)))) (ty := .int) (cy := k 0) (N' := 4) (K' := 12) (z := (12, .inl (nA (fun _ => 0)))) hx hb hown hcl hover harr ((hK.2 0 _ rfl).2) hK (by rw [e0]; exact hP) (by rw [e0]; exact hD) hS hA (nI_pos (by decide)) (nI_pos (by decide)) (nI_clamp (by decide)) (nI_clamp (by decide)) (by decide) (by decide) (by decide) rfl rfl hcells hslots (fun _ => rfl) hdg (fun q r cA H1 hinj hfr hK1 hP1 hD1 hS1 => ?_)
  have e1 : cA = k 2 := Option.some.inj (((hK1.2 5 _ rfl).2 : _ = _).symm.trans ((hK.2 2 _ rfl).2 : _ = _))
  subst e1
  have e2 : (fun i => if i < 4 then some (r i) else none) = q4 (r 0) (r 1) (r 2) (r 3) := by
    funext i
    match i with
    | 0 => rfl
    | 1 => rfl
    | 2 => rfl
    | 3 => rfl
    | i + 4 => exact if_neg (by omega)
  have hm : ∀ i, i < 4 → vr_up (fun _ => (.inl (k 0, 0, .inl (nA (fun _ => 0))) : va_E)) ((List.range 4).map r) (.inl (k 0, (12, .inl (nA (fun _ => 0))))) (r i) = .inl (k 0, (12, .inl (nA (fun _ => 0)))) := fun i hi => vr_up_in (List.mem_map.mpr ⟨i, List.mem_range.mpr hi, rfl⟩)
  have e3 : (ws ++ [(q, .inl (k 2, 4, .inr (.inr (.inr (.inr (fun i => if i < 4 then some (r i) else none))))))]) ++ va_pl ([] ++ (List.range 4).map r) (vr_up (fun _ => (.inl (k 0, 0, .inl (nA (fun _ => 0))) : va_E)) ((List.range 4).map r) (.inl (k 0, (12, .inl (nA (fun _ => 0)))))) = ws ++ [(q, .inl (k 2, 4, .inr (.inr (.inr (.inr (q4 (r 0) (r 1) (r 2) (r 3))))))), (r 0, .inl (k 0, 12, .inl (nA (fun _ => 0)))), (r 1, .inl (k 0, 12, .inl (nA (fun _ => 0)))), (r 2, .inl (k 0, 12, .inl (nA (fun _ => 0)))), (r 3, .inl (k 0, 12, .inl (nA (fun _ => 0))))] := by
    rw [e2, List.append_assoc]
    congr 1
    show (q, _) :: [(r 0, vr_up _ _ _ (r 0)), (r 1, vr_up _ _ _ (r 1)), (r 2, vr_up _ _ _ (r 2)), (r 3, vr_up _ _ _ (r 3))] = _
    rw [hm 0 (by decide), hm 1 (by decide), hm 2 (by decide), hm 3 (by decide)]
  rw [e3] at hP1 hD1
  exact kk q (r 0) (r 1) (r 2) (r 3) H1 hP1 hD1 hS1
end NEWS
