set_option maxHeartbeats 4000000 in
set_option maxRecDepth 100000 in
theorem c_FountainRows_isNumber (l : Launch) (dC : Nat → ClassId) (dI : Nat → Nat → Nat) (cA : Nat → ClassId) (x : Int32)  : Met l yX5_isNumber (kw_X5_isNumber) ({ frames := 0, cells := 0, slots := 0, locals := 0 }) (va_Pc [.int x] (fun U => kRO dC dI cA [] U)) (vp_Si (fun r => r = sp_isnum x)) 0 0 (fun _ => False) := by
  refine Met.ofW (cc := cX5_isNumber) (maxL := 1) (ret := (some .boolean)) (by decide) rfl ?_
  intro p e s m args below meth c s₁ B hml hv
  obtain ⟨rfl, hP, hK, hN⟩ := hv
  have hx := B.exec
  have hb := B.bytes
  have hr := B.returns
  have hts0 := atoms_spec (ws := (kw_X5_isNumber)) B.pre
  have hts : ∀ w ∈ TB, w.before _ s = true := fun w h => hts0 w (List.mem_cons_of_mem _ h)
  have hown : s.vm.findClass RX5 = some m.cls := findClass_of_methodNamed B.named
  have hlocks := B.notSynchronized
  have hk_0 := hts (.constant RX5 178 65535) tb_3
  have hl := lv_entry ([.int x]) (n := 1) (Nat.le_of_ble_eq_true rfl)
  rw [lg_entry_eq]
  generalize (lg_sl ([.int x]) ++ List.replicate (1 - (lg_sl ([.int x])).length) Slot.unset).toArray = ls at hl ⊢
  have hl : lv_has ls 1 [(0, .int x)] := hl
  refine lv_iload_n hx hb dX5_isNumber_0 rfl (lv_at hl 0 rfl) ?_
  refine lv_if_lt (tgt := 14) hx hb dX5_isNumber_1 (by decide) (fun c_1 => ?_) (fun c_1 => ?_)
  · have c_1 : x < 0 := c_1
    refine lv_iconst (v := 0) hx hb dX5_isNumber_14 (by decide) ?_
    exact W.zret (v := 0) hx hb hr (by decide) (fun t9 ht9 hW9 => ⟨0, rfl, (by unfold sp_isnum; rw [if_pos c_1] <;> rfl), ht9⟩) (fun _ h => absurd h List.not_mem_nil) dX5_isNumber_15
  · have c_1 : ¬ (x < 0) := c_1
    refine lv_iload_n hx hb dX5_isNumber_4 rfl (lv_at hl 0 rfl) ?_
    refine lv_ldc (v := 65535) hx hb hown hk_0 dX5_isNumber_5 ?_
    refine lv_icmp_gt (tgt := 14) hx hb dX5_isNumber_7 (by decide) (fun c_2 => ?_) (fun c_2 => ?_)
    · have c_2 : 65535 < x := c_2
      refine lv_iconst (v := 0) hx hb dX5_isNumber_14 (by decide) ?_
      exact W.zret (v := 0) hx hb hr (by decide) (fun t9 ht9 hW9 => ⟨0, rfl, (by unfold sp_isnum; rw [if_neg c_1, if_pos c_2] <;> rfl), ht9⟩) (fun _ h => absurd h List.not_mem_nil) dX5_isNumber_15
    · have c_2 : ¬ (65535 < x) := c_2
      refine lv_iconst (v := 1) hx hb dX5_isNumber_10 (by decide) ?_
      refine lv_goto (tgt := 15) hx hb dX5_isNumber_11 (by decide) ?_
      exact W.zret (v := 1) hx hb hr (by decide) (fun t9 ht9 hW9 => ⟨1, rfl, (by unfold sp_isnum; rw [if_neg c_1, if_neg c_2] <;> rfl), ht9⟩) (fun _ h => absurd h List.not_mem_nil) dX5_isNumber_15
set_option maxHeartbeats 4000000 in
set_option maxRecDepth 100000 in
theorem c_FountainRows_hasBit (l : Launch) (dC : Nat → ClassId) (dI : Nat → Nat → Nat) (cA : Nat → ClassId) (b : Int64) (i : Int32)  : Met l yX5_hasBit (kw_X5_hasBit) ({ frames := 0, cells := 0, slots := 0, locals := 0 }) (va_Pc [.long b, .int i] (fun U => kRO dC dI cA [] U)) (vp_Si (fun r => r = sp_bit b i)) 0 0 (fun _ => False) := by
  refine Met.ofW (cc := cX5_hasBit) (maxL := 3) (ret := (some .boolean)) (by decide) rfl ?_
  intro p e s m args below meth c s₁ B hml hv
  obtain ⟨rfl, hP, hK, hN⟩ := hv
  have hx := B.exec
  have hb := B.bytes
  have hr := B.returns
  have hts0 := atoms_spec (ws := (kw_X5_hasBit)) B.pre
  have hts : ∀ w ∈ TB, w.before _ s = true := fun w h => hts0 w (List.mem_cons_of_mem _ h)
  have hown : s.vm.findClass RX5 = some m.cls := findClass_of_methodNamed B.named
  have hlocks := B.notSynchronized
  have hl := lv_entry ([.long b, .int i]) (n := 3) (Nat.le_of_ble_eq_true rfl)
  rw [lg_entry_eq]
  generalize (lg_sl ([.long b, .int i]) ++ List.replicate (3 - (lg_sl ([.long b, .int i])).length) Slot.unset).toArray = ls at hl ⊢
  have hl : lv_has ls 3 [(0, .long b), (2, .int i)] := hl
  refine lv_lload_n hx hb dX5_hasBit_0 rfl (lv_at hl 0 rfl) ?_
  refine lv_iload_n hx hb dX5_hasBit_1 rfl (lv_at hl 1 rfl) ?_
  refine lv_lushr (v := jv_lushr b i) hx hb dX5_hasBit_2 rfl ?_
  refine lv_lconst (v := 1) hx hb dX5_hasBit_3 (by decide) ?_
  refine lv_land hx hb dX5_hasBit_4 ?_
  refine lv_lconst (v := 0) hx hb dX5_hasBit_5 (by decide) ?_
  refine W.lcmp hx hb dX5_hasBit_6 ?_
  refine lv_if_eq (tgt := 14) hx hb dX5_hasBit_7 (by decide) (fun c_1 => ?_) (fun c_1 => ?_)
  · have c_1 : (lg_cmp ((jv_lushr b i) &&& 1) 0) = 0 := c_1
    refine lv_iconst (v := 0) hx hb dX5_hasBit_14 (by decide) ?_
    exact W.zret (v := 0) hx hb hr (by decide) (fun t9 ht9 hW9 => ⟨0, rfl, (by unfold sp_bit; rw [if_pos c_1] <;> rfl), ht9⟩) (fun _ h => absurd h List.not_mem_nil) dX5_hasBit_15
  · have c_1 : ¬ ((lg_cmp ((jv_lushr b i) &&& 1) 0) = 0) := c_1
    refine lv_iconst (v := 1) hx hb dX5_hasBit_10 (by decide) ?_
    refine lv_goto (tgt := 15) hx hb dX5_hasBit_11 (by decide) ?_
    exact W.zret (v := 1) hx hb hr (by decide) (fun t9 ht9 hW9 => ⟨1, rfl, (by unfold sp_bit; rw [if_neg c_1] <;> rfl), ht9⟩) (fun _ h => absurd h List.not_mem_nil) dX5_hasBit_15
set_option maxHeartbeats 4000000 in
set_option maxRecDepth 100000 in
theorem c_FountainRows_nextState (l : Launch) (dC : Nat → ClassId) (dI : Nat → Nat → Nat) (cA : Nat → ClassId) (z : Int32)  : Met l yX5_nextState (kw_X5_nextState) ({ frames := 0, cells := 0, slots := 0, locals := 0 }) (va_Pc [.int z] (fun U => kRO dC dI cA [] U)) (vp_Si (fun r => r = sp_next z)) 0 0 (fun _ => False) := by
  refine Met.ofW (cc := cX5_nextState) (maxL := 1) (ret := (some .int)) (by decide) rfl ?_
  intro p e s m args below meth c s₁ B hml hv
  obtain ⟨rfl, hP, hK, hN⟩ := hv
  have hx := B.exec
  have hb := B.bytes
  have hr := B.returns
  have hts0 := atoms_spec (ws := (kw_X5_nextState)) B.pre
  have hts : ∀ w ∈ TB, w.before _ s = true := fun w h => hts0 w (List.mem_cons_of_mem _ h)
  have hown : s.vm.findClass RX5 = some m.cls := findClass_of_methodNamed B.named
  have hlocks := B.notSynchronized
  have hk_0 := hts (.constant RX5 179 1664525) tb_4
  have hk_1 := hts (.constant RX5 180 1013904223) tb_5
  have hl := lv_entry ([.int z]) (n := 1) (Nat.le_of_ble_eq_true rfl)
  rw [lg_entry_eq]
  generalize (lg_sl ([.int z]) ++ List.replicate (1 - (lg_sl ([.int z])).length) Slot.unset).toArray = ls at hl ⊢
  have hl : lv_has ls 1 [(0, .int z)] := hl
  refine lv_iload_n hx hb dX5_nextState_0 rfl (lv_at hl 0 rfl) ?_
  refine lv_ldc (v := 1664525) hx hb hown hk_0 dX5_nextState_1 ?_
  refine lv_imul hx hb dX5_nextState_3 ?_
  refine lv_ldc (v := 1013904223) hx hb hown hk_1 dX5_nextState_4 ?_
  refine lv_iadd hx hb dX5_nextState_6 ?_
  exact W.iret (v := (z * 1664525) + 1013904223) hx hb hr (fun t9 ht9 hW9 => ⟨(z * 1664525) + 1013904223, rfl, (by unfold sp_next; rfl), ht9⟩) (fun _ h => absurd h List.not_mem_nil) dX5_nextState_7
set_option maxHeartbeats 4000000 in
set_option maxRecDepth 100000 in
theorem c_FountainRows_drawnModulo (l : Launch) (dC : Nat → ClassId) (dI : Nat → Nat → Nat) (cA : Nat → ClassId) (z : Int32) (d : Int32)  : Met l yX5_drawnModulo (kw_X5_drawnModulo) ({ frames := 0, cells := 0, slots := 0, locals := 0 }) (va_Pc [.int z, .int d] (fun U => kRO dC dI cA [] U)) (vp_Si (fun r => r = sp_mod z d)) 0 0 (fun _ => False) := by
  refine Met.ofW (cc := cX5_drawnModulo) (maxL := 2) (ret := (some .int)) (by decide) rfl ?_
  intro p e s m args below meth c s₁ B hml hv
  obtain ⟨rfl, hP, hK, hN⟩ := hv
  have hx := B.exec
  have hb := B.bytes
  have hr := B.returns
  have hts0 := atoms_spec (ws := (kw_X5_drawnModulo)) B.pre
  have hts : ∀ w ∈ TB, w.before _ s = true := fun w h => hts0 w (List.mem_cons_of_mem _ h)
  have hown : s.vm.findClass RX5 = some m.cls := findClass_of_methodNamed B.named
  have hlocks := B.notSynchronized
  have hl := lv_entry ([.int z, .int d]) (n := 2) (Nat.le_of_ble_eq_true rfl)
  rw [lg_entry_eq]
  generalize (lg_sl ([.int z, .int d]) ++ List.replicate (2 - (lg_sl ([.int z, .int d])).length) Slot.unset).toArray = ls at hl ⊢
  have hl : lv_has ls 2 [(0, .int z), (1, .int d)] := hl
  refine lv_iload_n hx hb dX5_drawnModulo_0 rfl (lv_at hl 1 rfl) ?_
  refine lv_if_le (tgt := 12) hx hb dX5_drawnModulo_1 (by decide) (fun c_1 => ?_) (fun c_1 => ?_)
  · have c_1 : d ≤ 0 := c_1
    refine lv_iconst (v := 0) hx hb dX5_drawnModulo_12 (by decide) ?_
    exact W.iret (v := 0) hx hb hr (fun t9 ht9 hW9 => ⟨0, rfl, (by unfold sp_mod; rw [if_pos c_1] <;> rfl), ht9⟩) (fun _ h => absurd h List.not_mem_nil) dX5_drawnModulo_13
  · have c_1 : ¬ (d ≤ 0) := c_1
    refine lv_iload_n hx hb dX5_drawnModulo_4 rfl (lv_at hl 0 rfl) ?_
    refine lv_iconst (v := 1) hx hb dX5_drawnModulo_5 (by decide) ?_
    refine lv_iushr (v := jv_ushr z (1 : Int32)) hx hb dX5_drawnModulo_6 rfl ?_
    refine lv_iload_n hx hb dX5_drawnModulo_7 rfl (lv_at hl 1 rfl) ?_
    refine lv_irem hx hb dX5_drawnModulo_8 (by intro h; exact c_1 (by rw [h]; decide)) ?_
    refine lv_goto (tgt := 13) hx hb dX5_drawnModulo_9 (by decide) ?_
    exact W.iret (v := (jv_ushr z (1 : Int32)) - (jv_ushr z (1 : Int32)) / d * d) hx hb hr (fun t9 ht9 hW9 => ⟨(jv_ushr z (1 : Int32)) - (jv_ushr z (1 : Int32)) / d * d, rfl, (by unfold sp_mod; rw [if_neg c_1] <;> rfl), ht9⟩) (fun _ h => absurd h List.not_mem_nil) dX5_drawnModulo_13
set_option maxHeartbeats 4000000 in
set_option maxRecDepth 100000 in
theorem c_FountainRows_totalOf (l : Launch) (dC : Nat → ClassId) (dI : Nat → Nat → Nat) (cA : Nat → ClassId) (wa : Nat) (n : Nat) (w : Nat → Int32) (hn : n < 2 ^ 31) : Met l yX5_totalOf (kw_X5_totalOf) ({ frames := 0, cells := 0, slots := 0, locals := 0 }) (va_Pc [.ref wa] (fun U => kRO dC dI cA [(wa, .inl (cA 0, n, .inl w))] U)) (vp_Si (fun r => r = bx_sum w n)) 0 0 (fun _ => False) := by
  refine Met.ofW (cc := cX5_totalOf) (maxL := 6) (ret := (some .int)) (by decide) rfl ?_
  intro p e s m args below meth c s₁ B hml hv
  obtain ⟨rfl, hP, hK, hN⟩ := hv
  have hx := B.exec
  have hb := B.bytes
  have hr := B.returns
  have hts0 := atoms_spec (ws := (kw_X5_totalOf)) B.pre
  have hts : ∀ w ∈ TB, w.before _ s = true := fun w h => hts0 w (List.mem_cons_of_mem _ h)
  have hown : s.vm.findClass RX5 = some m.cls := findClass_of_methodNamed B.named
  have hlocks := B.notSynchronized
  have hl := lv_entry ([.ref wa]) (n := 6) (Nat.le_of_ble_eq_true rfl)
  rw [lg_entry_eq]
  generalize (lg_sl ([.ref wa]) ++ List.replicate (6 - (lg_sl ([.ref wa])).length) Slot.unset).toArray = ls at hl ⊢
  have hl : lv_has ls 6 [(0, .ref wa)] := hl
  refine lv_iconst (v := 0) hx hb dX5_totalOf_0 (by decide) ?_
  refine lv_istore_n (lv' := [(1, .int 0), (0, .ref wa)]) hx hb dX5_totalOf_1 rfl hl (by decide) rfl (fun ls hl => ?_)
  refine lv_aload_n hx hb dX5_totalOf_2 rfl (lv_at hl 1 rfl) ?_
  refine lv_astore_n (lv' := [(2, .ref wa), (1, .int 0), (0, .ref wa)]) hx hb dX5_totalOf_3 rfl hl (by decide) rfl (fun ls hl => ?_)
  refine lv_aload_n hx hb dX5_totalOf_4 rfl (lv_at hl 0 rfl) ?_
  refine va_alen (D := (dC, dI)) (v := nI n) hx hb hK hP 0 0 rfl rfl rfl dX5_totalOf_5 ?_
  refine lv_istore_n (lv' := [(3, .int (nI n)), (2, .ref wa), (1, .int 0), (0, .ref wa)]) hx hb dX5_totalOf_6 rfl hl (by decide) rfl (fun ls hl => ?_)
  refine lv_iconst (v := 0) hx hb dX5_totalOf_7 (by decide) ?_
  refine lv_istore (lv' := [(4, .int 0), (3, .int (nI n)), (2, .ref wa), (1, .int 0), (0, .ref wa)]) hx hb dX5_totalOf_8 hl (by decide) rfl (fun ls hl => ?_)
  have hi_hk : 0 ≤ n := (by omega)
  have hi_ht : 0 = bx_sum w 0 := rfl
  have hl9 : lv_has ls 6 [(4, .int (nI 0)), (1, .int 0), (3, .int (nI n)), (2, .ref wa), (0, .ref wa)] := lv_sub hl [0, 3, 1, 2, 4] rfl
  refine r_loop2 (I := fun (k : Nat) (t : Int32) (ls : Array Slot) => (k ≤ n) ∧ (t = bx_sum w k) ∧ lv_has ls 6 [(4, .int (nI k)), (1, .int t), (3, .int (nI n)), (2, .ref wa), (0, .ref wa)]) (μ := fun k t => n - k) ?_ 0 0 ⟨hi_hk, hi_ht, hl9⟩
  intro k t ls hI9 ih_L0
  obtain ⟨hk, ht, hl⟩ := hI9
  refine lv_iload hx hb dX5_totalOf_10 (lv_at hl 0 rfl) ?_
  refine lv_iload_n hx hb dX5_totalOf_12 rfl (lv_at hl 2 rfl) ?_
  refine lv_icmp_ge (tgt := 33) hx hb dX5_totalOf_13 (by decide) (fun c_1 => ?_) (fun c_1 => ?_)
  · have c_1 : (nI n) ≤ (nI k) := c_1
    have hk9 : n ≤ k := (ku_le (a := n) (b := k) (by omega) (by omega)).mp c_1
    refine lv_iload_n hx hb dX5_totalOf_33 rfl (lv_at hl 1 rfl) ?_
    exact W.iret (v := t) hx hb hr (fun t9 ht9 hW9 => ⟨t, rfl, (by have e : k = n := (by omega); rw [ht, e]), ht9⟩) (fun _ h => absurd h List.not_mem_nil) dX5_totalOf_34
  · have c_1 : ¬ ((nI n) ≤ (nI k)) := c_1
    have hk9 : k < n := (ku_nle (a := n) (b := k) (by omega) (by omega)).mp c_1
    refine lv_aload_n hx hb dX5_totalOf_16 rfl (lv_at hl 3 rfl) ?_
    refine lv_iload hx hb dX5_totalOf_17 (lv_at hl 0 rfl) ?_
    refine va_iald (D := (dC, dI)) hx hb hK hP 0 0 rfl rfl (vp_in_nI hk9 hn) dX5_totalOf_19 ?_
    refine kt_i (congrArg w (nI_clamp (by omega : k < 2 ^ 31))) ?_
    refine lv_istore (lv' := [(5, .int (w k)), (4, .int (nI k)), (1, .int t), (3, .int (nI n)), (2, .ref wa), (0, .ref wa)]) hx hb dX5_totalOf_20 hl (by decide) rfl (fun ls hl => ?_)
    refine lv_iload_n hx hb dX5_totalOf_22 rfl (lv_at hl 2 rfl) ?_
    refine lv_iload hx hb dX5_totalOf_23 (lv_at hl 0 rfl) ?_
    refine lv_iadd hx hb dX5_totalOf_25 ?_
    refine lv_istore_n (lv' := [(1, .int (t + (w k))), (5, .int (w k)), (4, .int (nI k)), (3, .int (nI n)), (2, .ref wa), (0, .ref wa)]) hx hb dX5_totalOf_26 rfl hl (by decide) rfl (fun ls hl => ?_)
    refine lv_iinc (v := nI (k + 1)) (lv' := [(4, .int (nI (k + 1))), (1, .int (t + (w k))), (5, .int (w k)), (3, .int (nI n)), (2, .ref wa), (0, .ref wa)]) hx hb dX5_totalOf_27 hl (k := 2) rfl (nI_succ _).symm (by decide) rfl (fun ls hl => ?_)
    refine lv_goto (tgt := 10) hx hb dX5_totalOf_30 (by decide) ?_
    have hi_hk : (k + 1) ≤ n := (by omega)
    have hi_ht : (t + (w k)) = bx_sum w (k + 1) := (by rw [ht]; rfl)
    have hl9 : lv_has ls 6 [(4, .int (nI (k + 1))), (1, .int (t + (w k))), (3, .int (nI n)), (2, .ref wa), (0, .ref wa)] := lv_sub hl [0, 1, 3, 4, 5] rfl
    exact ih_L0 (k + 1) (t + (w k)) ls ⟨hi_hk, hi_ht, hl9⟩ (by show n - (k + 1) < n - k; omega)
