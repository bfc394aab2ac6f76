set_option maxHeartbeats 4000000 in
set_option maxRecDepth 100000 in
theorem m_L_below (l : Launch) (G : va_G) (k : Nat → ClassId) (v : Int32) (n : Nat) (h0 : 0 < n) (hn : n < 2147483648) : Met l yL_below wsL_below ({ frames := 0, cells := 0, slots := 0, locals := 0 } : Room) (va_Pc [.int v, .int (nI n)] (Wd G k [])) (vp_Si (fun rX => ∃ m9 : Nat, rX = (nI m9) ∧ m9 < n)) 0 0 (fun _ => False) := by
  refine met_mk (cc := cL_below) (maxL := 2) (ret := (some .int)) (by decide) rfl rfl ?_
  intro pX eX sX mX bX meX cX S hr hlk hnm hB ls hl
  obtain ⟨hP, hK, hN⟩ := hB
  obtain ⟨hx, hb, hml, hown, hts⟩ := id S
  have hown : sX.vm.findClass RL = some mX.cls := hown
  have hl : lv_has ls 2 [(0, .int v), (1, .int (nI n))] := hl
  have lk0 : (Cond.constant RL 7 (2147483647)).before _ sX = true := hts _ (List.mem_cons_of_mem _ (List.mem_of_getElem? (i := 0) rfl))
  refine lv_iload_n hx hb dL_below_0 rfl (lv_at hl 0 rfl) ?_
  refine lv_ldc hx hb hown lk0 dL_below_1 ?_
  refine lv_iand hx hb dL_below_3 ?_
  obtain ⟨j, hj, ej⟩ := pk_andE v (m := 2147483647) 31 (by decide)
  rw [ej]
  refine lv_iload_n hx hb dL_below_4 rfl (lv_at hl 1 rfl) ?_
  refine n_irem (by omega) (by omega) (by omega) hx hb dL_below_5 ?_
  exact e_pure hx hb hr hlk (by exact ⟨_, rfl, Nat.mod_lt _ h0⟩) dL_below_6
set_option maxHeartbeats 4000000 in
set_option maxRecDepth 100000 in
theorem m_L_sum (l : Launch) (G : va_G) (k : Nat → ClassId) (oR oN n c : Nat) (fr fn : Nat → Int32) (co : Nat → Nat) (hn : n ≤ 7) (hc : c < 4096) (hf0 : fn 0 = nI n) (hr2 : ∀ f, f < n → fr (5 * f + 2) = nI (co f)) : Met l yL_sum wsL_sum ({ frames := 0, cells := 0, slots := 0, locals := 0 } : Room) (va_Pc [.int (nI c), .int (nI 2), .ref oR, .ref oN] (Wd G k [(oR, .inl (k 0, 60, .inl fr)), (oN, .inl (k 0, 3, .inl fn))])) (vp_Si (fun rX => rX = (nI (sumN co c n)))) 0 0 (fun _ => False) := by
  refine met_mk (cc := cL_sum) (maxL := 6) (ret := (some .int)) (by decide) rfl rfl ?_
  intro pX eX sX mX bX meX cX S hr hlk hnm hB ls hl
  obtain ⟨hP, hK, hN⟩ := hB
  obtain ⟨hx, hb, hml, hown, hts⟩ := id S
  have hown : sX.vm.findClass RL = some mX.cls := hown
  have hl : lv_has ls 6 [(0, .int (nI c)), (1, .int (nI 2)), (2, .ref oR), (3, .ref oN)] := hl
  refine n_iconst 0 (by decide) hx hb dL_sum_0 ?_
  refine lv_istore (lv' := [(4, .int (nI 0)), (0, .int (nI c)), (1, .int (nI 2)), (2, .ref oR), (3, .ref oN)]) hx hb dL_sum_1 hl (by decide) rfl (fun ls hl => ?_)
  refine n_iconst 0 (by decide) hx hb dL_sum_3 ?_
  refine lv_istore (lv' := [(5, .int (nI 0)), (4, .int (nI 0)), (0, .int (nI c)), (1, .int (nI 2)), (2, .ref oR), (3, .ref oN)]) hx hb dL_sum_4 hl (by decide) rfl (fun ls hl => ?_)
  have L6 : ∀ (NN : Nat) (x : Nat) (i : Nat), (n - i) < NN → (i ≤ n) → (x = sumN co c i) → ∀ ls : Array Slot, lv_has ls 6 [(0, .int (nI c)), (1, .int (nI 2)), (2, .ref oR), (3, .ref oN), (4, .int (nI x)), (5, .int (nI i))] → W pX l eX ({ frames := 0, cells := 0, slots := 0, locals := 0 } : Room) sX mX ([.int (nI c), .int (nI 2), .ref oR, .ref oN] : List Value).toArray bX meX cX sX.heap [] 0 0 (MQ bX (vp_Si (fun rX => rX = (nI (sumN co c n)))) ([.int (nI c), .int (nI 2), .ref oR, .ref oN] : List Value).toArray sX 0 0 (fun _ => False)) (F0 mX 6 ls []) := by
    intro NN
    induction NN with
    | zero => intro x i hm9; exact absurd hm9 (Nat.not_lt_zero _)
    | succ NN ih6 =>
      intro x i hm9 hi ex ls hl
      refine lv_iload hx hb dL_sum_6 (lv_at hl 5 rfl) ?_
      refine lv_aload_n hx hb dL_sum_8 rfl (lv_at hl 3 rfl) ?_
      refine n_iconst 0 (by decide) hx hb dL_sum_9 ?_
      refine r_iald hx hb hK hP 1 rfl (by omega) (by first | decide | omega) dL_sum_10 ?_
      rw [hf0]
      refine n_icmp_ge (tgt := 40) (by omega) (by omega) hx hb dL_sum_11 (by decide) (fun q11 => ?_) (fun q11 => ?_)
      · skip
        refine lv_iload hx hb dL_sum_40 (lv_at hl 4 rfl) ?_
        exact e_pure hx hb hr hlk (by rw [ex, show i = n by omega]) dL_sum_42
      · skip
        refine lv_iload hx hb dL_sum_14 (lv_at hl 4 rfl) ?_
        refine lv_iload_n hx hb dL_sum_16 rfl (lv_at hl 0 rfl) ?_
        refine lv_iload hx hb dL_sum_17 (lv_at hl 5 rfl) ?_
        refine lv_ishr hx hb dL_sum_19 ?_
        refine n_iconst 1 (by decide) hx hb dL_sum_20 ?_
        refine lv_iand hx hb dL_sum_21 ?_
        rw [xI_bitN (by omega) (by omega)]
        refine lv_aload_n hx hb dL_sum_22 rfl (lv_at hl 2 rfl) ?_
        refine n_iconst 5 (by decide) hx hb dL_sum_23 ?_
        refine lv_iload hx hb dL_sum_24 (lv_at hl 5 rfl) ?_
        refine n_imul hx hb dL_sum_26 ?_
        refine lv_iload_n hx hb dL_sum_27 rfl (lv_at hl 1 rfl) ?_
        refine n_iadd hx hb dL_sum_28 ?_
        refine r_iald hx hb hK hP 0 rfl (by omega) (by first | decide | omega) dL_sum_29 ?_
        rw [hr2 i (by omega)]
        refine n_imul hx hb dL_sum_30 ?_
        refine n_iadd hx hb dL_sum_31 ?_
        refine lv_istore (lv' := [(4, .int (nI (x + ((if c.testBit i then 1 else 0) * (co i))))), (0, .int (nI c)), (1, .int (nI 2)), (2, .ref oR), (3, .ref oN), (5, .int (nI i))]) hx hb dL_sum_32 hl (by decide) rfl (fun ls hl => ?_)
        refine n_iinc (lv' := [(5, .int (nI (i + 1))), (4, .int (nI (x + ((if c.testBit i then 1 else 0) * (co i))))), (0, .int (nI c)), (1, .int (nI 2)), (2, .ref oR), (3, .ref oN)]) (k := 5) 1 hx hb dL_sum_34 hl rfl (by decide) (by decide) rfl (fun ls hl => ?_)
        refine lv_goto (tgt := 6) hx hb dL_sum_37 (by decide) ?_
        exact ih6 (x + ((if c.testBit i then 1 else 0) * (co i))) (i + 1) (by omega) (by omega) (by rw [sumN_succ, ← ex]; split <;> simp)  _ (lv_sub hl [2, 3, 4, 5, 1, 0] rfl)
  exact L6 _ (0) (0) (Nat.lt_succ_self _) (by omega) (by rfl)  _ (lv_sub hl [2, 3, 4, 5, 1, 0] rfl)
theorem hdS_L_sum : yL_sum.cls ≠ "java/lang/invoke/MethodHandle" ∧ yL_sum.cls ≠ "java/lang/invoke/VarHandle" ∧ (parseMethodDescriptor yL_sum.desc).map (fun d => d.parameters.length) = some 4 := by decide +kernel
set_option maxHeartbeats 4000000 in
set_option maxRecDepth 100000 in
theorem m_L_fits (l : Launch) (G : va_G) (k : Nat → ClassId) (oR oN n c : Nat) (fr fn : Nat → Int32) (co de : Nat → Nat) (bud : Int32) (hn : n ≤ 7) (hc : c < 4096) (hf0 : fn 0 = nI n) (hf2 : fn 2 = bud) (hbd : bud = -1 ∨ 0 ≤ bud) (hr2 : ∀ f, f < n → fr (5 * f + 2) = nI (co f)) (hr4 : ∀ f, f < n → fr (5 * f + 4) = nI (de f)) (hd3 : ∀ f, f < n → de f < 3) : Met l yL_fits wsL_fits ({ frames := 1, cells := 0, slots := 0, locals := 25 } : Room) (va_Pc [.int (nI c), .ref oR, .ref oN] (Wd G k [(oR, .inl (k 0, 60, .inl fr)), (oN, .inl (k 0, 3, .inl fn))])) (vp_Si (fun rX => rX = (bI (fitB n co de bud c)))) 0 0 (fun _ => False) := by
  refine met_mk (cc := cL_fits) (maxL := 5) (ret := (some .boolean)) (by decide) rfl rfl ?_
  intro pX eX sX mX bX meX cX S hr hlk hnm hB ls hl
  obtain ⟨hP, hK, hN⟩ := hB
  obtain ⟨hx, hb, hml, hown, hts⟩ := id S
  have hown : sX.vm.findClass RL = some mX.cls := hown
  have hl : lv_has ls 5 [(0, .int (nI c)), (1, .ref oR), (2, .ref oN)] := hl
  have L28 : ∀ (NN : Nat) (is9 : Bool) (i : Nat), (n - i) < NN → (i ≤ n) → (is9 = fitF de c (decide (bud = -1) || decide (nI (sumN co c n) ≤ bud)) i) → ∀ ls : Array Slot, lv_has ls 5 [(0, .int (nI c)), (1, .ref oR), (2, .ref oN), (3, .int (bI is9)), (4, .int (nI i))] → W pX l eX ({ frames := 1, cells := 0, slots := 0, locals := 25 } : Room) sX mX ([.int (nI c), .ref oR, .ref oN] : List Value).toArray bX meX cX sX.heap [] 0 0 (MQ bX (vp_Si (fun rX => rX = (bI (fitB n co de bud c)))) ([.int (nI c), .ref oR, .ref oN] : List Value).toArray sX 0 0 (fun _ => False)) (F0 mX 28 ls []) := by
    intro NN
    induction NN with
    | zero => intro is9 i hm9; exact absurd hm9 (Nat.not_lt_zero _)
    | succ NN ih28 =>
      intro is9 i hm9 hi ex ls hl
      refine lv_iload hx hb dL_fits_28 (lv_at hl 4 rfl) ?_
      refine lv_aload_n hx hb dL_fits_30 rfl (lv_at hl 2 rfl) ?_
      refine n_iconst 0 (by decide) hx hb dL_fits_31 ?_
      refine r_iald hx hb hK hP 1 rfl (by omega) (by first | decide | omega) dL_fits_32 ?_
      rw [hf0]
      refine n_icmp_ge (tgt := 89) (by omega) (by omega) hx hb dL_fits_33 (by decide) (fun q33 => ?_) (fun q33 => ?_)
      · skip
        refine lv_iload_n hx hb dL_fits_89 rfl (lv_at hl 3 rfl) ?_
        exact e_pureZ (v := is9) hx hb hr hlk (by rw [ex, show i = n by omega]; rfl) dL_fits_90
      · skip
        refine lv_iload_n hx hb dL_fits_36 rfl (lv_at hl 3 rfl) ?_
        refine b_if_eq (tgt := 81) hx hb dL_fits_37 (by decide) (fun q37 => ?_) (fun q37 => ?_)
        · skip
          refine n_iconst 0 (by decide) hx hb dL_fits_81 ?_
          refine lv_istore_n (lv' := [(3, .int (nI 0)), (0, .int (nI c)), (1, .ref oR), (2, .ref oN), (4, .int (nI i))]) hx hb dL_fits_82 rfl hl (by decide) rfl (fun ls hl => ?_)
          refine n_iinc (lv' := [(4, .int (nI (i + 1))), (3, .int (nI 0)), (0, .int (nI c)), (1, .ref oR), (2, .ref oN)]) (k := 4) 1 hx hb dL_fits_83 hl rfl (by decide) (by decide) rfl (fun ls hl => ?_)
          refine lv_goto (tgt := 28) hx hb dL_fits_86 (by decide) ?_
          exact ih28 (false) (i + 1) (by omega) (by omega) (by rw [fitF_succ, ← ex]; cases hq : c.testBit i <;> simp_all <;> omega)  _ (lv_sub hl [2, 3, 4, 1, 0] rfl)
        · skip
          refine lv_aload_n hx hb dL_fits_40 rfl (lv_at hl 1 rfl) ?_
          refine n_iconst 5 (by decide) hx hb dL_fits_41 ?_
          refine lv_iload hx hb dL_fits_42 (lv_at hl 4 rfl) ?_
          refine n_imul hx hb dL_fits_44 ?_
          refine n_iconst 4 (by decide) hx hb dL_fits_45 ?_
          refine n_iadd hx hb dL_fits_46 ?_
          refine r_iald hx hb hK hP 0 rfl (by omega) (by first | decide | omega) dL_fits_47 ?_
          rw [hr4 i (by omega)]
          have hd9 := hd3 i (by omega)
          refine n_if_eq (tgt := 77) (by omega) hx hb dL_fits_48 (by decide) (fun q48 => ?_) (fun q48 => ?_)
          · skip
            refine n_iconst 1 (by decide) hx hb dL_fits_77 ?_
            refine lv_goto (tgt := 82) hx hb dL_fits_78 (by decide) ?_
            refine lv_istore_n (lv' := [(3, .int (nI 1)), (0, .int (nI c)), (1, .ref oR), (2, .ref oN), (4, .int (nI i))]) hx hb dL_fits_82 rfl hl (by decide) rfl (fun ls hl => ?_)
            refine n_iinc (lv' := [(4, .int (nI (i + 1))), (3, .int (nI 1)), (0, .int (nI c)), (1, .ref oR), (2, .ref oN)]) (k := 4) 1 hx hb dL_fits_83 hl rfl (by decide) (by decide) rfl (fun ls hl => ?_)
            refine lv_goto (tgt := 28) hx hb dL_fits_86 (by decide) ?_
            exact ih28 (true) (i + 1) (by omega) (by omega) (by rw [fitF_succ, ← ex]; cases hq : c.testBit i <;> simp_all <;> omega)  _ (lv_sub hl [2, 3, 4, 1, 0] rfl)
          · skip
            refine lv_iload_n hx hb dL_fits_51 rfl (lv_at hl 0 rfl) ?_
            refine lv_iload hx hb dL_fits_52 (lv_at hl 4 rfl) ?_
            refine lv_ishr hx hb dL_fits_54 ?_
            refine n_iconst 1 (by decide) hx hb dL_fits_55 ?_
            refine lv_iand hx hb dL_fits_56 ?_
            rw [xI_bitB (by omega) (by omega)]
            refine lv_aload_n hx hb dL_fits_57 rfl (lv_at hl 1 rfl) ?_
            refine n_iconst 5 (by decide) hx hb dL_fits_58 ?_
            refine lv_iload hx hb dL_fits_59 (lv_at hl 4 rfl) ?_
            refine n_imul hx hb dL_fits_61 ?_
            refine n_iconst 4 (by decide) hx hb dL_fits_62 ?_
            refine n_iadd hx hb dL_fits_63 ?_
            refine r_iald hx hb hK hP 0 rfl (by omega) (by first | decide | omega) dL_fits_64 ?_
            rw [hr4 i (by omega)]
            refine n_iconst 1 (by decide) hx hb dL_fits_65 ?_
            refine n_icmp_ne (tgt := 73) (by omega) (by omega) hx hb dL_fits_66 (by decide) (fun q66 => ?_) (fun q66 => ?_)
            · skip
              refine n_iconst 0 (by decide) hx hb dL_fits_73 ?_
              refine b_icmp_ne (tgt := 81) (a := c.testBit i) (b := false) hx hb dL_fits_74 (by decide) (fun q74 => ?_) (fun q74 => ?_)
              · skip
                refine n_iconst 0 (by decide) hx hb dL_fits_81 ?_
                refine lv_istore_n (lv' := [(3, .int (nI 0)), (0, .int (nI c)), (1, .ref oR), (2, .ref oN), (4, .int (nI i))]) hx hb dL_fits_82 rfl hl (by decide) rfl (fun ls hl => ?_)
                refine n_iinc (lv' := [(4, .int (nI (i + 1))), (3, .int (nI 0)), (0, .int (nI c)), (1, .ref oR), (2, .ref oN)]) (k := 4) 1 hx hb dL_fits_83 hl rfl (by decide) (by decide) rfl (fun ls hl => ?_)
                refine lv_goto (tgt := 28) hx hb dL_fits_86 (by decide) ?_
                exact ih28 (false) (i + 1) (by omega) (by omega) (by rw [fitF_succ, ← ex]; cases hq : c.testBit i <;> simp_all <;> omega)  _ (lv_sub hl [2, 3, 4, 1, 0] rfl)
              · skip
                refine n_iconst 1 (by decide) hx hb dL_fits_77 ?_
                refine lv_goto (tgt := 82) hx hb dL_fits_78 (by decide) ?_
                refine lv_istore_n (lv' := [(3, .int (nI 1)), (0, .int (nI c)), (1, .ref oR), (2, .ref oN), (4, .int (nI i))]) hx hb dL_fits_82 rfl hl (by decide) rfl (fun ls hl => ?_)
                refine n_iinc (lv' := [(4, .int (nI (i + 1))), (3, .int (nI 1)), (0, .int (nI c)), (1, .ref oR), (2, .ref oN)]) (k := 4) 1 hx hb dL_fits_83 hl rfl (by decide) (by decide) rfl (fun ls hl => ?_)
                refine lv_goto (tgt := 28) hx hb dL_fits_86 (by decide) ?_
                exact ih28 (true) (i + 1) (by omega) (by omega) (by rw [fitF_succ, ← ex]; cases hq : c.testBit i <;> simp_all <;> omega)  _ (lv_sub hl [2, 3, 4, 1, 0] rfl)
            · skip
              refine n_iconst 1 (by decide) hx hb dL_fits_69 ?_
              refine lv_goto (tgt := 74) hx hb dL_fits_70 (by decide) ?_
              refine b_icmp_ne (tgt := 81) (a := c.testBit i) (b := true) hx hb dL_fits_74 (by decide) (fun q74 => ?_) (fun q74 => ?_)
              · skip
                refine n_iconst 0 (by decide) hx hb dL_fits_81 ?_
                refine lv_istore_n (lv' := [(3, .int (nI 0)), (0, .int (nI c)), (1, .ref oR), (2, .ref oN), (4, .int (nI i))]) hx hb dL_fits_82 rfl hl (by decide) rfl (fun ls hl => ?_)
                refine n_iinc (lv' := [(4, .int (nI (i + 1))), (3, .int (nI 0)), (0, .int (nI c)), (1, .ref oR), (2, .ref oN)]) (k := 4) 1 hx hb dL_fits_83 hl rfl (by decide) (by decide) rfl (fun ls hl => ?_)
                refine lv_goto (tgt := 28) hx hb dL_fits_86 (by decide) ?_
                exact ih28 (false) (i + 1) (by omega) (by omega) (by rw [fitF_succ, ← ex]; cases hq : c.testBit i <;> simp_all <;> omega)  _ (lv_sub hl [2, 3, 4, 1, 0] rfl)
              · skip
                refine n_iconst 1 (by decide) hx hb dL_fits_77 ?_
                refine lv_goto (tgt := 82) hx hb dL_fits_78 (by decide) ?_
                refine lv_istore_n (lv' := [(3, .int (nI 1)), (0, .int (nI c)), (1, .ref oR), (2, .ref oN), (4, .int (nI i))]) hx hb dL_fits_82 rfl hl (by decide) rfl (fun ls hl => ?_)
                refine n_iinc (lv' := [(4, .int (nI (i + 1))), (3, .int (nI 1)), (0, .int (nI c)), (1, .ref oR), (2, .ref oN)]) (k := 4) 1 hx hb dL_fits_83 hl rfl (by decide) (by decide) rfl (fun ls hl => ?_)
                refine lv_goto (tgt := 28) hx hb dL_fits_86 (by decide) ?_
                exact ih28 (true) (i + 1) (by omega) (by omega) (by rw [fitF_succ, ← ex]; cases hq : c.testBit i <;> simp_all <;> omega)  _ (lv_sub hl [2, 3, 4, 1, 0] rfl)
  refine lv_aload_n hx hb dL_fits_0 rfl (lv_at hl 2 rfl) ?_
  refine n_iconst 2 (by decide) hx hb dL_fits_1 ?_
  refine r_iald hx hb hK hP 1 rfl (by omega) (by first | decide | omega) dL_fits_2 ?_
  rw [hf2]
  refine lv_if_lt (tgt := 19) hx hb dL_fits_3 (by decide) (fun q3 => ?_) (fun q3 => ?_)
  · skip
    refine n_iconst 1 (by decide) hx hb dL_fits_19 ?_
    refine lv_goto (tgt := 24) hx hb dL_fits_20 (by decide) ?_
    refine lv_istore_n (lv' := [(3, .int (nI 1)), (0, .int (nI c)), (1, .ref oR), (2, .ref oN)]) hx hb dL_fits_24 rfl hl (by decide) rfl (fun ls hl => ?_)
    refine n_iconst 0 (by decide) hx hb dL_fits_25 ?_
    refine lv_istore (lv' := [(4, .int (nI 0)), (3, .int (nI 1)), (0, .int (nI c)), (1, .ref oR), (2, .ref oN)]) hx hb dL_fits_26 hl (by decide) rfl (fun ls hl => ?_)
    exact L28 _ (true) (0) (Nat.lt_succ_self _) (by omega) (by first | exact fit_neg hbd q3 | exact fit_le q16 | exact fit_gt q3 q16)  _ (lv_sub hl [2, 3, 4, 1, 0] rfl)
  · skip
    refine lv_iload_n hx hb dL_fits_6 rfl (lv_at hl 0 rfl) ?_
    refine n_iconst 2 (by decide) hx hb dL_fits_7 ?_
    refine lv_aload_n hx hb dL_fits_8 rfl (lv_at hl 1 rfl) ?_
    refine lv_aload_n hx hb dL_fits_9 rfl (lv_at hl 2 rfl) ?_
    refine cS_i (As := [.int (nI c), .int (nI 2), .ref oR, .ref oN]) S hP hK hN (m_L_sum l G k _ _ _ _ _ _ _ (by omega) (by omega) (by omega) (by omega)) gL_fits_L_sum rfl rfl rfl hdS_L_sum rfl rfl [0, 1] rfl rfl hl.1 rfl rfl ⟨Nat.le_of_ble_eq_true rfl, Nat.le_of_ble_eq_true rfl⟩ dL_fits_10 (fun rX hr1 => ?_)
    subst hr1
    refine lv_aload_n hx hb dL_fits_13 rfl (lv_at hl 2 rfl) ?_
    refine n_iconst 2 (by decide) hx hb dL_fits_14 ?_
    refine r_iald hx hb hK hP 1 rfl (by omega) (by first | decide | omega) dL_fits_15 ?_
    rw [hf2]
    refine lv_icmp_gt (tgt := 23) hx hb dL_fits_16 (by decide) (fun q16 => ?_) (fun q16 => ?_)
    · skip
      refine n_iconst 0 (by decide) hx hb dL_fits_23 ?_
      refine lv_istore_n (lv' := [(3, .int (nI 0)), (0, .int (nI c)), (1, .ref oR), (2, .ref oN)]) hx hb dL_fits_24 rfl hl (by decide) rfl (fun ls hl => ?_)
      refine n_iconst 0 (by decide) hx hb dL_fits_25 ?_
      refine lv_istore (lv' := [(4, .int (nI 0)), (3, .int (nI 0)), (0, .int (nI c)), (1, .ref oR), (2, .ref oN)]) hx hb dL_fits_26 hl (by decide) rfl (fun ls hl => ?_)
      exact L28 _ (false) (0) (Nat.lt_succ_self _) (by omega) (by first | exact fit_neg hbd q3 | exact fit_le q16 | exact fit_gt q3 q16)  _ (lv_sub hl [2, 3, 4, 1, 0] rfl)
    · skip
      refine n_iconst 1 (by decide) hx hb dL_fits_19 ?_
      refine lv_goto (tgt := 24) hx hb dL_fits_20 (by decide) ?_
      refine lv_istore_n (lv' := [(3, .int (nI 1)), (0, .int (nI c)), (1, .ref oR), (2, .ref oN)]) hx hb dL_fits_24 rfl hl (by decide) rfl (fun ls hl => ?_)
      refine n_iconst 0 (by decide) hx hb dL_fits_25 ?_
      refine lv_istore (lv' := [(4, .int (nI 0)), (3, .int (nI 1)), (0, .int (nI c)), (1, .ref oR), (2, .ref oN)]) hx hb dL_fits_26 hl (by decide) rfl (fun ls hl => ?_)
      exact L28 _ (true) (0) (Nat.lt_succ_self _) (by omega) (by first | exact fit_neg hbd q3 | exact fit_le q16 | exact fit_gt q3 q16)  _ (lv_sub hl [2, 3, 4, 1, 0] rfl)
