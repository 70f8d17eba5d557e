set_option maxHeartbeats 4000000 in
set_option maxRecDepth 100000 in
theorem c_Source_hasSymbol (l : Launch) (dC : Nat → ClassId) (dI : Nat → Nat → Nat) (cA : Nat → ClassId) (o : Nat) (wa : Nat) (ua : Nat) (sa : Nat) (K : Nat) (P : Nat) (S : Nat) (seed : Int32) (T : Int32) (i : Int32)  : Met l yX3_hasSymbol (kw_X3_hasSymbol) ({ frames := 0, cells := 0, slots := 0, locals := 0 }) (va_Pc [.ref o, .int i] (fun U => kRO dC dI cA [(o, .inr (3, [.int (nI K), .int (nI P), .int (nI (K + P)), .int (nI S), .int seed, .ref wa, .int T, .ref ua, .ref sa]))] U)) (vp_Si (fun r => r = sp_has K i)) 0 0 (fun _ => False) := by
  refine Met.ofW (cc := cX3_hasSymbol) (maxL := 2) (ret := (some .boolean)) (by decide) rfl ?_
  intro p e s m args below meth c s₁ B hml hv
  obtain ⟨rfl, hP, hK, hN⟩ := hv
  have hx := B.exec
  have hb := B.bytes
  have hr := B.returns
  have hts0 := atoms_spec (ws := (kw_X3_hasSymbol)) B.pre
  have hts : ∀ w ∈ TB, w.before _ s = true := fun w h => hts0 w (List.mem_cons_of_mem _ h)
  have hown : s.vm.findClass RX3 = some m.cls := findClass_of_methodNamed B.named
  have hlocks := B.notSynchronized
  have hk_0 := hts (.fieldLink RX3 9 "FountainRows$Source" "symbolCount" "I") tb_38
  have hl := lv_entry ([.ref o, .int i]) (n := 2) (Nat.le_of_ble_eq_true rfl)
  rw [lg_entry_eq]
  generalize (lg_sl ([.ref o, .int i]) ++ List.replicate (2 - (lg_sl ([.ref o, .int i])).length) Slot.unset).toArray = ls at hl ⊢
  have hl : lv_has ls 2 [(0, .ref o), (1, .int i)] := hl
  refine lv_iload_n hx hb dX3_hasSymbol_0 rfl (lv_at hl 1 rfl) ?_
  refine lv_if_lt (tgt := 16) hx hb dX3_hasSymbol_1 (by decide) (fun c_1 => ?_) (fun c_1 => ?_)
  · have c_1 : i < 0 := c_1
    refine lv_iconst (v := 0) hx hb dX3_hasSymbol_16 (by decide) ?_
    exact W.zret (v := 0) hx hb hr (by decide) (fun t9 ht9 hW9 => ⟨0, rfl, (by unfold sp_has; rw [if_pos c_1] <;> rfl), ht9⟩) (fun _ h => absurd h List.not_mem_nil) dX3_hasSymbol_17
  · have c_1 : ¬ (i < 0) := c_1
    refine lv_iload_n hx hb dX3_hasSymbol_4 rfl (lv_at hl 1 rfl) ?_
    refine lv_aload_n hx hb dX3_hasSymbol_5 rfl (lv_at hl 0 rfl) ?_
    refine va_get (D := (dC, dI)) (ci := 3) (v := .int (nI K)) (C := RX3) (T := TX3) (N := 9) hx hb hts inX3 hown hK hP 0 rfl rfl 0 (by decide) hk_0 (fun _ h9 => h9) rfl dX3_hasSymbol_6 ?_
    refine lv_icmp_ge (tgt := 16) hx hb dX3_hasSymbol_9 (by decide) (fun c_2 => ?_) (fun c_2 => ?_)
    · have c_2 : (nI K) ≤ i := c_2
      refine lv_iconst (v := 0) hx hb dX3_hasSymbol_16 (by decide) ?_
      exact W.zret (v := 0) hx hb hr (by decide) (fun t9 ht9 hW9 => ⟨0, rfl, (by unfold sp_has; rw [if_neg c_1, if_pos c_2] <;> rfl), ht9⟩) (fun _ h => absurd h List.not_mem_nil) dX3_hasSymbol_17
    · have c_2 : ¬ ((nI K) ≤ i) := c_2
      refine lv_iconst (v := 1) hx hb dX3_hasSymbol_12 (by decide) ?_
      refine lv_goto (tgt := 17) hx hb dX3_hasSymbol_13 (by decide) ?_
      exact W.zret (v := 1) hx hb hr (by decide) (fun t9 ht9 hW9 => ⟨1, rfl, (by unfold sp_has; rw [if_neg c_1, if_neg c_2] <;> rfl), ht9⟩) (fun _ h => absurd h List.not_mem_nil) dX3_hasSymbol_17
set_option maxHeartbeats 4000000 in
set_option maxRecDepth 100000 in
theorem c_Source_hasSum (l : Launch) (dC : Nat → ClassId) (dI : Nat → Nat → Nat) (cA : Nat → ClassId) (o : Nat) (wa : Nat) (ua : Nat) (sa : Nat) (K : Nat) (P : Nat) (S : Nat) (seed : Int32) (T : Int32) (i : Int32)  : Met l yX3_hasSum (kw_X3_hasSum) ({ frames := 0, cells := 0, slots := 0, locals := 0 }) (va_Pc [.ref o, .int i] (fun U => kRO dC dI cA [(o, .inr (3, [.int (nI K), .int (nI P), .int (nI (K + P)), .int (nI S), .int seed, .ref wa, .int T, .ref ua, .ref sa]))] U)) (vp_Si (fun r => r = sp_has P i)) 0 0 (fun _ => False) := by
  refine Met.ofW (cc := cX3_hasSum) (maxL := 2) (ret := (some .boolean)) (by decide) rfl ?_
  intro p e s m args below meth c s₁ B hml hv
  obtain ⟨rfl, hP, hK, hN⟩ := hv
  have hx := B.exec
  have hb := B.bytes
  have hr := B.returns
  have hts0 := atoms_spec (ws := (kw_X3_hasSum)) B.pre
  have hts : ∀ w ∈ TB, w.before _ s = true := fun w h => hts0 w (List.mem_cons_of_mem _ h)
  have hown : s.vm.findClass RX3 = some m.cls := findClass_of_methodNamed B.named
  have hlocks := B.notSynchronized
  have hk_0 := hts (.fieldLink RX3 15 "FountainRows$Source" "sumCount" "I") tb_39
  have hl := lv_entry ([.ref o, .int i]) (n := 2) (Nat.le_of_ble_eq_true rfl)
  rw [lg_entry_eq]
  generalize (lg_sl ([.ref o, .int i]) ++ List.replicate (2 - (lg_sl ([.ref o, .int i])).length) Slot.unset).toArray = ls at hl ⊢
  have hl : lv_has ls 2 [(0, .ref o), (1, .int i)] := hl
  refine lv_iload_n hx hb dX3_hasSum_0 rfl (lv_at hl 1 rfl) ?_
  refine lv_if_lt (tgt := 16) hx hb dX3_hasSum_1 (by decide) (fun c_1 => ?_) (fun c_1 => ?_)
  · have c_1 : i < 0 := c_1
    refine lv_iconst (v := 0) hx hb dX3_hasSum_16 (by decide) ?_
    exact W.zret (v := 0) hx hb hr (by decide) (fun t9 ht9 hW9 => ⟨0, rfl, (by unfold sp_has; rw [if_pos c_1] <;> rfl), ht9⟩) (fun _ h => absurd h List.not_mem_nil) dX3_hasSum_17
  · have c_1 : ¬ (i < 0) := c_1
    refine lv_iload_n hx hb dX3_hasSum_4 rfl (lv_at hl 1 rfl) ?_
    refine lv_aload_n hx hb dX3_hasSum_5 rfl (lv_at hl 0 rfl) ?_
    refine va_get (D := (dC, dI)) (ci := 3) (v := .int (nI P)) (C := RX3) (T := TX3) (N := 9) hx hb hts inX3 hown hK hP 0 rfl rfl 1 (by decide) hk_0 (fun _ h9 => h9) rfl dX3_hasSum_6 ?_
    refine lv_icmp_ge (tgt := 16) hx hb dX3_hasSum_9 (by decide) (fun c_2 => ?_) (fun c_2 => ?_)
    · have c_2 : (nI P) ≤ i := c_2
      refine lv_iconst (v := 0) hx hb dX3_hasSum_16 (by decide) ?_
      exact W.zret (v := 0) hx hb hr (by decide) (fun t9 ht9 hW9 => ⟨0, rfl, (by unfold sp_has; rw [if_neg c_1, if_pos c_2] <;> rfl), ht9⟩) (fun _ h => absurd h List.not_mem_nil) dX3_hasSum_17
    · have c_2 : ¬ ((nI P) ≤ i) := c_2
      refine lv_iconst (v := 1) hx hb dX3_hasSum_12 (by decide) ?_
      refine lv_goto (tgt := 17) hx hb dX3_hasSum_13 (by decide) ?_
      exact W.zret (v := 1) hx hb hr (by decide) (fun t9 ht9 hW9 => ⟨1, rfl, (by unfold sp_has; rw [if_neg c_1, if_neg c_2] <;> rfl), ht9⟩) (fun _ h => absurd h List.not_mem_nil) dX3_hasSum_17
set_option maxHeartbeats 4000000 in
set_option maxRecDepth 100000 in
theorem c_Source_hasPart (l : Launch) (dC : Nat → ClassId) (dI : Nat → Nat → Nat) (cA : Nat → ClassId) (o : Nat) (wa : Nat) (ua : Nat) (sa : Nat) (K : Nat) (P : Nat) (S : Nat) (seed : Int32) (T : Int32) (i : Int32)  : Met l yX3_hasPart (kw_X3_hasPart) ({ frames := 0, cells := 0, slots := 0, locals := 0 }) (va_Pc [.ref o, .int i] (fun U => kRO dC dI cA [(o, .inr (3, [.int (nI K), .int (nI P), .int (nI (K + P)), .int (nI S), .int seed, .ref wa, .int T, .ref ua, .ref sa]))] U)) (vp_Si (fun r => r = sp_has (K + P) i)) 0 0 (fun _ => False) := by
  refine Met.ofW (cc := cX3_hasPart) (maxL := 2) (ret := (some .boolean)) (by decide) rfl ?_
  intro p e s m args below meth c s₁ B hml hv
  obtain ⟨rfl, hP, hK, hN⟩ := hv
  have hx := B.exec
  have hb := B.bytes
  have hr := B.returns
  have hts0 := atoms_spec (ws := (kw_X3_hasPart)) B.pre
  have hts : ∀ w ∈ TB, w.before _ s = true := fun w h => hts0 w (List.mem_cons_of_mem _ h)
  have hown : s.vm.findClass RX3 = some m.cls := findClass_of_methodNamed B.named
  have hlocks := B.notSynchronized
  have hk_0 := hts (.fieldLink RX3 18 "FountainRows$Source" "partCount" "I") tb_40
  have hl := lv_entry ([.ref o, .int i]) (n := 2) (Nat.le_of_ble_eq_true rfl)
  rw [lg_entry_eq]
  generalize (lg_sl ([.ref o, .int i]) ++ List.replicate (2 - (lg_sl ([.ref o, .int i])).length) Slot.unset).toArray = ls at hl ⊢
  have hl : lv_has ls 2 [(0, .ref o), (1, .int i)] := hl
  refine lv_iload_n hx hb dX3_hasPart_0 rfl (lv_at hl 1 rfl) ?_
  refine lv_if_lt (tgt := 16) hx hb dX3_hasPart_1 (by decide) (fun c_1 => ?_) (fun c_1 => ?_)
  · have c_1 : i < 0 := c_1
    refine lv_iconst (v := 0) hx hb dX3_hasPart_16 (by decide) ?_
    exact W.zret (v := 0) hx hb hr (by decide) (fun t9 ht9 hW9 => ⟨0, rfl, (by unfold sp_has; rw [if_pos c_1] <;> rfl), ht9⟩) (fun _ h => absurd h List.not_mem_nil) dX3_hasPart_17
  · have c_1 : ¬ (i < 0) := c_1
    refine lv_iload_n hx hb dX3_hasPart_4 rfl (lv_at hl 1 rfl) ?_
    refine lv_aload_n hx hb dX3_hasPart_5 rfl (lv_at hl 0 rfl) ?_
    refine va_get (D := (dC, dI)) (ci := 3) (v := .int (nI (K + P))) (C := RX3) (T := TX3) (N := 9) hx hb hts inX3 hown hK hP 0 rfl rfl 2 (by decide) hk_0 (fun _ h9 => h9) rfl dX3_hasPart_6 ?_
    refine lv_icmp_ge (tgt := 16) hx hb dX3_hasPart_9 (by decide) (fun c_2 => ?_) (fun c_2 => ?_)
    · have c_2 : (nI (K + P)) ≤ i := c_2
      refine lv_iconst (v := 0) hx hb dX3_hasPart_16 (by decide) ?_
      exact W.zret (v := 0) hx hb hr (by decide) (fun t9 ht9 hW9 => ⟨0, rfl, (by unfold sp_has; rw [if_neg c_1, if_pos c_2] <;> rfl), ht9⟩) (fun _ h => absurd h List.not_mem_nil) dX3_hasPart_17
    · have c_2 : ¬ ((nI (K + P)) ≤ i) := c_2
      refine lv_iconst (v := 1) hx hb dX3_hasPart_12 (by decide) ?_
      refine lv_goto (tgt := 17) hx hb dX3_hasPart_13 (by decide) ?_
      exact W.zret (v := 1) hx hb hr (by decide) (fun t9 ht9 hW9 => ⟨1, rfl, (by unfold sp_has; rw [if_neg c_1, if_neg c_2] <;> rfl), ht9⟩) (fun _ h => absurd h List.not_mem_nil) dX3_hasPart_17
set_option maxHeartbeats 4000000 in
set_option maxRecDepth 100000 in
theorem c_Source_setSymbol (l : Launch) (dC : Nat → ClassId) (dI : Nat → Nat → Nat) (cA : Nat → ClassId) (sz : Nat) (o : Nat) (wa : Nat) (ua : Nat) (sa : Nat) (K : Nat) (P : Nat) (S : Nat) (seed : Int32) (T : Int32) (sy : Nat → Int64) (i : Int32) (v : Int64) (hK32 : K ≤ 32) (hP8 : P ≤ 8) : Met l yX3_setSymbol (kw_X3_setSymbol) ({ frames := 1, cells := 0, slots := 0, locals := 21 }) (va_Pc [.ref o, .int i, .long v] (fun U => kRW dC dI cA [(o, .inr (3, [.int (nI K), .int (nI P), .int (nI (K + P)), .int (nI S), .int seed, .ref wa, .int T, .ref ua, .ref sa])), (sa, .inl (cA 1, 32, .inr (.inl sy)))] sz U)) (va_Qv (fun (u : Unit) => True) (fun (u : Unit) t => kB dC dI (va_A [(o, .inr (3, [.int (nI K), .int (nI P), .int (nI (K + P)), .int (nI S), .int seed, .ref wa, .int T, .ref ua, .ref sa])), (sa, .inl (cA 1, 32, .inr (.inl sy)))] sz) [(o, .inr (3, [.int (nI K), .int (nI P), .int (nI (K + P)), .int (nI S), .int seed, .ref wa, .int T, .ref ua, .ref sa])), (sa, .inl (cA 1, 32, .inr (.inl (sp_setsym K S sy i v))))] t) (va_A [(o, .inr (3, [.int (nI K), .int (nI P), .int (nI (K + P)), .int (nI S), .int seed, .ref wa, .int T, .ref ua, .ref sa])), (sa, .inl (cA 1, 32, .inr (.inl sy)))] sz)) 0 0 (va_A [(o, .inr (3, [.int (nI K), .int (nI P), .int (nI (K + P)), .int (nI S), .int seed, .ref wa, .int T, .ref ua, .ref sa])), (sa, .inl (cA 1, 32, .inr (.inl sy)))] sz) := by
  refine Met.ofW (cc := cX3_setSymbol) (maxL := 4) (ret := none) (by decide) rfl ?_
  intro p e s m args below meth c s₁ B hml hv
  obtain ⟨rfl, hsz, hP, hK, hN, hD0⟩ := hv
  have hx := B.exec
  have hb := B.bytes
  have hr := B.returns
  have hts0 := atoms_spec (ws := (kw_X3_setSymbol)) B.pre
  have hts : ∀ w ∈ TB, w.before _ s = true := fun w h => hts0 w (List.mem_cons_of_mem _ h)
  have hown : s.vm.findClass RX3 = some m.cls := findClass_of_methodNamed B.named
  have hlocks := B.notSynchronized
  subst hsz
  have hD := hD0.self (sz := s.heap.size)
  generalize hAe : va_A [(o, .inr (3, [.int (nI K), .int (nI P), .int (nI (K + P)), .int (nI S), .int seed, .ref wa, .int T, .ref ua, .ref sa])), (sa, .inl (cA 1, 32, .inr (.inl sy)))] s.heap.size = A at hD ⊢
  have hA : ∀ q : Nat, s.heap.size ≤ q → A q := fun q h => by rw [← hAe]; exact Or.inr h
  have hS : va_S A s.heap s.heap [] := va_S.rf
  have hk_0 := hts (.fieldLink RX3 44 "FountainRows$Source" "symbols" "[J") tb_46
  have hk_1 := hts (.fieldLink RX3 21 "FountainRows$Source" "size" "I") tb_47
  have hl := lv_entry ([.ref o, .int i, .long v]) (n := 4) (Nat.le_of_ble_eq_true rfl)
  rw [lg_entry_eq]
  generalize (lg_sl ([.ref o, .int i, .long v]) ++ List.replicate (4 - (lg_sl ([.ref o, .int i, .long v])).length) Slot.unset).toArray = ls at hl ⊢
  have hl : lv_has ls 4 [(0, .ref o), (1, .int i), (2, .long v)] := hl
  refine lv_aload_n hx hb dX3_setSymbol_0 rfl (lv_at hl 0 rfl) ?_
  refine lv_iload_n hx hb dX3_setSymbol_1 rfl (lv_at hl 1 rfl) ?_
  have hPc := hP.sub (ws' := [(o, .inr (3, [.int (nI K), .int (nI P), .int (nI (K + P)), .int (nI S), .int seed, .ref wa, .int T, .ref ua, .ref sa]))]) [0] rfl
  refine kq_csi (va_runV (As := [.int i]) (rest := []) ⟨hx, hb, hml, hown, hts⟩ (c_Source_hasSymbol l dC dI cA o wa ua sa K P S seed T i) (cwV 1 hts (kg_V tb_42 tb_43 tb_44 tb_45 tb_41) rfl rfl rfl (by decide +kernel) ⟨Nat.le_of_ble_eq_true rfl, Nat.le_of_ble_eq_true rfl⟩) (kpv_ro hK hN hPc (ci := 3) (q0 := 0) rfl rfl rfl) rfl rfl hl.1 rfl (lv_room (Nat.le_of_ble_eq_true rfl)) dX3_setSymbol_2 ⟨Nat.le_of_ble_eq_true rfl, Nat.le_of_ble_eq_true rfl⟩) (fun r_1 hr_1 => ?_)
  subst hr_1
  refine lv_if_eq (tgt := 40) hx hb dX3_setSymbol_5 (by decide) (fun c_2 => ?_) (fun c_2 => ?_)
  · have c_2 : (sp_has K i) = 0 := c_2
    have hP9 := hP.sub (ws' := [(o, .inr (3, [.int (nI K), .int (nI P), .int (nI (K + P)), .int (nI S), .int seed, .ref wa, .int T, .ref ua, .ref sa])), (sa, .inl (cA 1, 32, .inr (.inl sy)))]) [0, 1] rfl
    have hD9 := hD.sub (ws' := [(o, .inr (3, [.int (nI K), .int (nI P), .int (nI (K + P)), .int (nI S), .int seed, .ref wa, .int T, .ref ua, .ref sa])), (sa, .inl (cA 1, 32, .inr (.inl sy)))]) [0, 1] (by decide) rfl
    have e9_0 : sp_setsym K S sy i v = sy := (by unfold sp_setsym; rw [if_pos c_2] <;> rfl)
    have e9 : ([(o, .inr (3, [.int (nI K), .int (nI P), .int (nI (K + P)), .int (nI S), .int seed, .ref wa, .int T, .ref ua, .ref sa])), (sa, .inl (cA 1, 32, .inr (.inl (sp_setsym K S sy i v))))] : va_W) = [(o, .inr (3, [.int (nI K), .int (nI P), .int (nI (K + P)), .int (nI S), .int seed, .ref wa, .int T, .ref ua, .ref sa])), (sa, .inl (cA 1, 32, .inr (.inl sy)))] := by rw [e9_0]
    exact W.vret hx hb hr (fun t9 ht9 hW9 => ⟨⟨(), rfl, trivial, by rw [ht9, e9]; exact hP9, by rw [e9]; exact hD9⟩, hS.F ht9⟩) hS.2.2 dX3_setSymbol_40
  · have c_2 : ¬ ((sp_has K i) = 0) := c_2
    refine lv_aload_n hx hb dX3_setSymbol_8 rfl (lv_at hl 0 rfl) ?_
    refine va_get (D := (dC, dI)) (ci := 3) (v := .ref sa) (C := RX3) (T := TX3) (N := 9) hx hb hts inX3 hown hK hP 0 rfl rfl 8 (by decide) hk_0 (fun _ h9 => h9) rfl dX3_setSymbol_9 ?_
    refine lv_iload_n hx hb dX3_setSymbol_12 rfl (lv_at hl 1 rfl) ?_
    refine lv_aload_n hx hb dX3_setSymbol_13 rfl (lv_at hl 0 rfl) ?_
    refine va_get (D := (dC, dI)) (ci := 3) (v := .int (nI S)) (C := RX3) (T := TX3) (N := 9) hx hb hts inX3 hown hK hP 0 rfl rfl 3 (by decide) hk_1 (fun _ h9 => h9) rfl dX3_setSymbol_14 ?_
    refine lv_bipush (v := 8) hx hb dX3_setSymbol_17 (by decide) ?_
    refine lv_icmp_ge (tgt := 38) hx hb dX3_setSymbol_19 (by decide) (fun c_3 => ?_) (fun c_3 => ?_)
    · have c_3 : 8 ≤ (nI S) := c_3
      refine lv_lload_n hx hb dX3_setSymbol_38 rfl (lv_at hl 2 rfl) ?_
      refine va_last (D := (dC, dI)) hx hb hK hP hD hS 1 1 rfl rfl (sp_has_in c_2 hK32 (by omega)) dX3_setSymbol_39 (fun H locs hP hD hS => ?_)
      have hP : va_P (dC, dI) vwCl [(o, .inr (3, [.int (nI K), .int (nI P), .int (nI (K + P)), .int (nI S), .int seed, .ref wa, .int T, .ref ua, .ref sa])), (sa, .inl (cA 1, 32, .inr (.inl (vp_updL sy i.toNatClampNeg v))))] H := hP
      have hD : va_D A [(o, .inr (3, [.int (nI K), .int (nI P), .int (nI (K + P)), .int (nI S), .int seed, .ref wa, .int T, .ref ua, .ref sa])), (sa, .inl (cA 1, 32, .inr (.inl (vp_updL sy i.toNatClampNeg v))))] := hD
      have hP9 := hP.sub (ws' := [(o, .inr (3, [.int (nI K), .int (nI P), .int (nI (K + P)), .int (nI S), .int seed, .ref wa, .int T, .ref ua, .ref sa])), (sa, .inl (cA 1, 32, .inr (.inl (vp_updL sy i.toNatClampNeg v))))]) [0, 1] rfl
      have hD9 := hD.sub (ws' := [(o, .inr (3, [.int (nI K), .int (nI P), .int (nI (K + P)), .int (nI S), .int seed, .ref wa, .int T, .ref ua, .ref sa])), (sa, .inl (cA 1, 32, .inr (.inl (vp_updL sy i.toNatClampNeg v))))]) [0, 1] (by decide) rfl
      have e9_0 : sp_setsym K S sy i v = vp_updL sy i.toNatClampNeg v := (by unfold sp_setsym; rw [if_neg c_2, if_pos c_3] <;> rfl)
      have e9 : ([(o, .inr (3, [.int (nI K), .int (nI P), .int (nI (K + P)), .int (nI S), .int seed, .ref wa, .int T, .ref ua, .ref sa])), (sa, .inl (cA 1, 32, .inr (.inl (sp_setsym K S sy i v))))] : va_W) = [(o, .inr (3, [.int (nI K), .int (nI P), .int (nI (K + P)), .int (nI S), .int seed, .ref wa, .int T, .ref ua, .ref sa])), (sa, .inl (cA 1, 32, .inr (.inl (vp_updL sy i.toNatClampNeg v))))] := by rw [e9_0]
      exact W.vret hx hb hr (fun t9 ht9 hW9 => ⟨⟨(), rfl, trivial, by rw [ht9, e9]; exact hP9, by rw [e9]; exact hD9⟩, hS.F ht9⟩) hS.2.2 dX3_setSymbol_40
    · have c_3 : ¬ (8 ≤ (nI S)) := c_3
      refine lv_lload_n hx hb dX3_setSymbol_22 rfl (lv_at hl 2 rfl) ?_
      refine lv_lconst (v := 1) hx hb dX3_setSymbol_23 (by decide) ?_
      refine lv_bipush (v := 8) hx hb dX3_setSymbol_24 (by decide) ?_
      refine lv_aload_n hx hb dX3_setSymbol_26 rfl (lv_at hl 0 rfl) ?_
      refine va_get (D := (dC, dI)) (ci := 3) (v := .int (nI S)) (C := RX3) (T := TX3) (N := 9) hx hb hts inX3 hown hK hP 0 rfl rfl 3 (by decide) hk_1 (fun _ h9 => h9) rfl dX3_setSymbol_27 ?_
      refine lv_imul hx hb dX3_setSymbol_30 ?_
      refine kt_i (y := nI (8 * S)) (pk_mul 8 S) ?_
      refine lv_lshl (v := jv_lshl 1 (nI (8 * S))) hx hb dX3_setSymbol_31 rfl ?_
      refine lv_lconst (v := 1) hx hb dX3_setSymbol_32 (by decide) ?_
      refine lv_lsub hx hb dX3_setSymbol_33 ?_
      refine lv_land hx hb dX3_setSymbol_34 ?_
      refine lv_goto (tgt := 39) hx hb dX3_setSymbol_35 (by decide) ?_
      refine va_last (D := (dC, dI)) hx hb hK hP hD hS 1 1 rfl rfl (sp_has_in c_2 hK32 (by omega)) dX3_setSymbol_39 (fun H locs hP hD hS => ?_)
      have hP : va_P (dC, dI) vwCl [(o, .inr (3, [.int (nI K), .int (nI P), .int (nI (K + P)), .int (nI S), .int seed, .ref wa, .int T, .ref ua, .ref sa])), (sa, .inl (cA 1, 32, .inr (.inl (vp_updL sy i.toNatClampNeg (v &&& ((jv_lshl 1 (nI (8 * S))) - 1))))))] H := hP
      have hD : va_D A [(o, .inr (3, [.int (nI K), .int (nI P), .int (nI (K + P)), .int (nI S), .int seed, .ref wa, .int T, .ref ua, .ref sa])), (sa, .inl (cA 1, 32, .inr (.inl (vp_updL sy i.toNatClampNeg (v &&& ((jv_lshl 1 (nI (8 * S))) - 1))))))] := hD
      have hP9 := hP.sub (ws' := [(o, .inr (3, [.int (nI K), .int (nI P), .int (nI (K + P)), .int (nI S), .int seed, .ref wa, .int T, .ref ua, .ref sa])), (sa, .inl (cA 1, 32, .inr (.inl (vp_updL sy i.toNatClampNeg (v &&& ((jv_lshl 1 (nI (8 * S))) - 1))))))]) [0, 1] rfl
      have hD9 := hD.sub (ws' := [(o, .inr (3, [.int (nI K), .int (nI P), .int (nI (K + P)), .int (nI S), .int seed, .ref wa, .int T, .ref ua, .ref sa])), (sa, .inl (cA 1, 32, .inr (.inl (vp_updL sy i.toNatClampNeg (v &&& ((jv_lshl 1 (nI (8 * S))) - 1))))))]) [0, 1] (by decide) rfl
      have e9_0 : sp_setsym K S sy i v = vp_updL sy i.toNatClampNeg (v &&& ((jv_lshl 1 (nI (8 * S))) - 1)) := (by unfold sp_setsym; rw [if_neg c_2, if_neg c_3] <;> rfl)
      have e9 : ([(o, .inr (3, [.int (nI K), .int (nI P), .int (nI (K + P)), .int (nI S), .int seed, .ref wa, .int T, .ref ua, .ref sa])), (sa, .inl (cA 1, 32, .inr (.inl (sp_setsym K S sy i v))))] : va_W) = [(o, .inr (3, [.int (nI K), .int (nI P), .int (nI (K + P)), .int (nI S), .int seed, .ref wa, .int T, .ref ua, .ref sa])), (sa, .inl (cA 1, 32, .inr (.inl (vp_updL sy i.toNatClampNeg (v &&& ((jv_lshl 1 (nI (8 * S))) - 1))))))] := by rw [e9_0]
      exact W.vret hx hb hr (fun t9 ht9 hW9 => ⟨⟨(), rfl, trivial, by rw [ht9, e9]; exact hP9, by rw [e9]; exact hD9⟩, hS.F ht9⟩) hS.2.2 dX3_setSymbol_40
set_option maxHeartbeats 4000000 in
set_option maxRecDepth 100000 in
theorem c_Source_symbolsOfSum (l : Launch) (dC : Nat → ClassId) (dI : Nat → Nat → Nat) (cA : Nat → ClassId) (o : Nat) (wa : Nat) (ua : Nat) (sa : Nat) (K : Nat) (P : Nat) (S : Nat) (seed : Int32) (T : Int32) (su : Nat → Int64) (i : Int32) (hK32 : K ≤ 32) (hP8 : P ≤ 8) : Met l yX3_symbolsOfSum (kw_X3_symbolsOfSum) ({ frames := 1, cells := 0, slots := 0, locals := 21 }) (va_Pc [.ref o, .int i] (fun U => kRO dC dI cA [(o, .inr (3, [.int (nI K), .int (nI P), .int (nI (K + P)), .int (nI S), .int seed, .ref wa, .int T, .ref ua, .ref sa])), (ua, .inl (cA 1, 8, .inr (.inl su)))] U)) (vp_Sl (fun r => r = sp_sos P su i)) 0 0 (fun _ => False) := by
  refine Met.ofW (cc := cX3_symbolsOfSum) (maxL := 2) (ret := (some .long)) (by decide) rfl ?_
  intro p e s m args below meth c s₁ B hml hv
  obtain ⟨rfl, hP, hK, hN⟩ := hv
  have hx := B.exec
  have hb := B.bytes
  have hr := B.returns
  have hts0 := atoms_spec (ws := (kw_X3_symbolsOfSum)) B.pre
  have hts : ∀ w ∈ TB, w.before _ s = true := fun w h => hts0 w (List.mem_cons_of_mem _ h)
  have hown : s.vm.findClass RX3 = some m.cls := findClass_of_methodNamed B.named
  have hlocks := B.notSynchronized
  have hk_0 := hts (.fieldLink RX3 48 "FountainRows$Source" "sumSymbols" "[J") tb_52
  have hl := lv_entry ([.ref o, .int i]) (n := 2) (Nat.le_of_ble_eq_true rfl)
  rw [lg_entry_eq]
  generalize (lg_sl ([.ref o, .int i]) ++ List.replicate (2 - (lg_sl ([.ref o, .int i])).length) Slot.unset).toArray = ls at hl ⊢
  have hl : lv_has ls 2 [(0, .ref o), (1, .int i)] := hl
  refine lv_aload_n hx hb dX3_symbolsOfSum_0 rfl (lv_at hl 0 rfl) ?_
  refine lv_iload_n hx hb dX3_symbolsOfSum_1 rfl (lv_at hl 1 rfl) ?_
  have hPc := hP.sub (ws' := [(o, .inr (3, [.int (nI K), .int (nI P), .int (nI (K + P)), .int (nI S), .int seed, .ref wa, .int T, .ref ua, .ref sa]))]) [0] rfl
  refine kq_csi (va_runV (As := [.int i]) (rest := []) ⟨hx, hb, hml, hown, hts⟩ (c_Source_hasSum l dC dI cA o wa ua sa K P S seed T i) (cwV 1 hts (kg_V tb_49 tb_50 tb_51 tb_45 tb_48) rfl rfl rfl (by decide +kernel) ⟨Nat.le_of_ble_eq_true rfl, Nat.le_of_ble_eq_true rfl⟩) (kpv_ro hK hN hPc (ci := 3) (q0 := 0) rfl rfl rfl) rfl rfl hl.1 rfl (lv_room (Nat.le_of_ble_eq_true rfl)) dX3_symbolsOfSum_2 ⟨Nat.le_of_ble_eq_true rfl, Nat.le_of_ble_eq_true rfl⟩) (fun r_1 hr_1 => ?_)
  subst hr_1
  refine lv_if_eq (tgt := 17) hx hb dX3_symbolsOfSum_5 (by decide) (fun c_2 => ?_) (fun c_2 => ?_)
  · have c_2 : (sp_has P i) = 0 := c_2
    refine lv_lconst (v := 0) hx hb dX3_symbolsOfSum_17 (by decide) ?_
    exact W.lret (v := 0) hx hb hr (fun t9 ht9 hW9 => ⟨0, rfl, (by unfold sp_sos; rw [if_pos c_2] <;> rfl), ht9⟩) (fun _ h => absurd h List.not_mem_nil) dX3_symbolsOfSum_18
  · have c_2 : ¬ ((sp_has P i) = 0) := c_2
    refine lv_aload_n hx hb dX3_symbolsOfSum_8 rfl (lv_at hl 0 rfl) ?_
    refine va_get (D := (dC, dI)) (ci := 3) (v := .ref ua) (C := RX3) (T := TX3) (N := 9) hx hb hts inX3 hown hK hP 0 rfl rfl 7 (by decide) hk_0 (fun _ h9 => h9) rfl dX3_symbolsOfSum_9 ?_
    refine lv_iload_n hx hb dX3_symbolsOfSum_12 rfl (lv_at hl 1 rfl) ?_
    refine va_lald (D := (dC, dI)) hx hb hK hP 1 1 rfl rfl (sp_has_in c_2 hP8 (by omega)) dX3_symbolsOfSum_13 ?_
    refine lv_goto (tgt := 18) hx hb dX3_symbolsOfSum_14 (by decide) ?_
    exact W.lret (v := su i.toNatClampNeg) hx hb hr (fun t9 ht9 hW9 => ⟨su i.toNatClampNeg, rfl, (by unfold sp_sos; rw [if_neg c_2] <;> rfl), ht9⟩) (fun _ h => absurd h List.not_mem_nil) dX3_symbolsOfSum_18
set_option maxHeartbeats 4000000 in
set_option maxRecDepth 100000 in
theorem c_Source_valueOfSymbols (l : Launch) (dC : Nat → ClassId) (dI : Nat → Nat → Nat) (cA : Nat → ClassId) (o : Nat) (wa : Nat) (ua : Nat) (sa : Nat) (K : Nat) (P : Nat) (S : Nat) (seed : Int32) (T : Int32) (sy : Nat → Int64) (bits : Int64)  : Met l yX3_valueOfSymbols (kw_X3_valueOfSymbols) ({ frames := 1, cells := 0, slots := 0, locals := 22 }) (va_Pc [.ref o, .long bits] (fun U => kRO dC dI cA [(o, .inr (3, [.int (nI K), .int (nI P), .int (nI (K + P)), .int (nI S), .int seed, .ref wa, .int T, .ref ua, .ref sa])), (sa, .inl (cA 1, 32, .inr (.inl sy)))] U)) (vp_Sl (fun r => r = sp_vos sy bits 32)) 0 0 (fun _ => False) := by
  refine Met.ofW (cc := cX3_valueOfSymbols) (maxL := 6) (ret := (some .long)) (by decide) rfl ?_
  intro p e s m args below meth c s₁ B hml hv
  obtain ⟨rfl, hP, hK, hN⟩ := hv
  have hx := B.exec
  have hb := B.bytes
  have hr := B.returns
  have hts0 := atoms_spec (ws := (kw_X3_valueOfSymbols)) B.pre
  have hts : ∀ w ∈ TB, w.before _ s = true := fun w h => hts0 w (List.mem_cons_of_mem _ h)
  have hown : s.vm.findClass RX3 = some m.cls := findClass_of_methodNamed B.named
  have hlocks := B.notSynchronized
  have hk_0 := hts (.fieldLink RX3 44 "FountainRows$Source" "symbols" "[J") tb_46
  have hl := lv_entry ([.ref o, .long bits]) (n := 6) (Nat.le_of_ble_eq_true rfl)
  rw [lg_entry_eq]
  generalize (lg_sl ([.ref o, .long bits]) ++ List.replicate (6 - (lg_sl ([.ref o, .long bits])).length) Slot.unset).toArray = ls at hl ⊢
  have hl : lv_has ls 6 [(0, .ref o), (1, .long bits)] := hl
  refine lv_lconst (v := 0) hx hb dX3_valueOfSymbols_0 (by decide) ?_
  refine lv_lstore_n (lv' := [(3, .long 0), (0, .ref o), (1, .long bits)]) hx hb dX3_valueOfSymbols_1 rfl hl (by decide) rfl (fun ls hl => ?_)
  refine lv_iconst (v := 0) hx hb dX3_valueOfSymbols_2 (by decide) ?_
  refine lv_istore (lv' := [(5, .int 0), (3, .long 0), (0, .ref o), (1, .long bits)]) hx hb dX3_valueOfSymbols_3 hl (by decide) rfl (fun ls hl => ?_)
  have hi_hk : 0 ≤ 32 := (by omega)
  have hi_hx9 : 0 = sp_vos sy bits 0 := rfl
  have hl9 : lv_has ls 6 [(5, .int (nI 0)), (3, .long 0), (0, .ref o), (1, .long bits)] := lv_sub hl [0, 1, 2, 3] rfl
  refine r_loop2 (I := fun (k : Nat) (x : Int64) (ls : Array Slot) => (k ≤ 32) ∧ (x = sp_vos sy bits k) ∧ lv_has ls 6 [(5, .int (nI k)), (3, .long x), (0, .ref o), (1, .long bits)]) (μ := fun k x => 32 - k) ?_ 0 0 ⟨hi_hk, hi_hx9, hl9⟩
  intro k x ls hI9 ih_L0
  obtain ⟨hk, hx9, hl⟩ := hI9
  refine lv_iload hx hb dX3_valueOfSymbols_5 (lv_at hl 0 rfl) ?_
  refine lv_bipush (v := 32) hx hb dX3_valueOfSymbols_7 (by decide) ?_
  refine lv_icmp_ge (tgt := 37) hx hb dX3_valueOfSymbols_9 (by decide) (fun c_1 => ?_) (fun c_1 => ?_)
  · have c_1 : 32 ≤ (nI k) := c_1
    have hk9 : 32 ≤ k := (ku_le (a := 32) (b := k) (by omega) (by omega)).mp c_1
    refine lv_lload_n hx hb dX3_valueOfSymbols_37 rfl (lv_at hl 1 rfl) ?_
    exact W.lret (v := x) hx hb hr (fun t9 ht9 hW9 => ⟨x, rfl, (by have e : k = 32 := (by omega); rw [hx9, e]), ht9⟩) (fun _ h => absurd h List.not_mem_nil) dX3_valueOfSymbols_38
  · have c_1 : ¬ (32 ≤ (nI k)) := c_1
    have hk9 : k < 32 := (ku_nle (a := 32) (b := k) (by omega) (by omega)).mp c_1
    refine lv_lload_n hx hb dX3_valueOfSymbols_12 rfl (lv_at hl 3 rfl) ?_
    refine lv_iload hx hb dX3_valueOfSymbols_13 (lv_at hl 0 rfl) ?_
    have hPc := hP.sub (ws' := []) [] rfl
    refine kq_csi (va_runSN (As := [.long bits, .int (nI k)]) (rest := []) ⟨hx, hb, hml, hown, hts⟩ (c_FountainRows_hasBit l dC dI cA bits (nI k)) ⟨va_cnB 2 hts (kg_I tb_53) rfl rfl rfl (hN.2 (RX3, 60, yX5_hasBit, "FountainRows") (List.mem_of_getElem? (i := 2) rfl)) (hts _ tb_54) (by decide +kernel) ⟨Nat.le_of_ble_eq_true rfl, Nat.le_of_ble_eq_true rfl⟩, hts _ tb_55, trivial⟩ (kps_ro hK hN hPc) rfl rfl hl.1 rfl (lv_room (Nat.le_of_ble_eq_true rfl)) dX3_valueOfSymbols_15 ⟨Nat.le_of_ble_eq_true rfl, Nat.le_of_ble_eq_true rfl⟩) (fun r_2 hr_2 => ?_)
    subst hr_2
    refine lv_if_eq (tgt := 31) hx hb dX3_valueOfSymbols_18 (by decide) (fun c_3 => ?_) (fun c_3 => ?_)
    · have c_3 : (sp_bit bits (nI k)) = 0 := c_3
      refine lv_iinc (v := nI (k + 1)) (lv' := [(5, .int (nI (k + 1))), (3, .long x), (0, .ref o), (1, .long bits)]) hx hb dX3_valueOfSymbols_31 hl (k := 0) rfl (nI_succ _).symm (by decide) rfl (fun ls hl => ?_)
      refine lv_goto (tgt := 5) hx hb dX3_valueOfSymbols_34 (by decide) ?_
      have hi_hk : (k + 1) ≤ 32 := (by omega)
      have hi_hx9 : x = sp_vos sy bits (k + 1) := (by subst hx9; exact (if_pos c_3).symm)
      have hl9 : lv_has ls 6 [(5, .int (nI (k + 1))), (3, .long x), (0, .ref o), (1, .long bits)] := lv_sub hl [0, 1, 2, 3] rfl
      exact ih_L0 (k + 1) x ls ⟨hi_hk, hi_hx9, hl9⟩ (by show 32 - (k + 1) < 32 - k; omega)
    · have c_3 : ¬ ((sp_bit bits (nI k)) = 0) := c_3
      refine lv_lload_n hx hb dX3_valueOfSymbols_21 rfl (lv_at hl 1 rfl) ?_
      refine lv_aload_n hx hb dX3_valueOfSymbols_22 rfl (lv_at hl 2 rfl) ?_
      refine va_get (D := (dC, dI)) (ci := 3) (v := .ref sa) (C := RX3) (T := TX3) (N := 9) hx hb hts inX3 hown hK hP 0 rfl rfl 8 (by decide) hk_0 (fun _ h9 => h9) rfl dX3_valueOfSymbols_23 ?_
      refine lv_iload hx hb dX3_valueOfSymbols_26 (lv_at hl 0 rfl) ?_
      refine va_lald (D := (dC, dI)) hx hb hK hP 1 1 rfl rfl (vp_in_nI hk9 (by omega)) dX3_valueOfSymbols_28 ?_
      refine kt_l (congrArg sy (nI_clamp (by omega : k < 2 ^ 31))) ?_
      refine lv_lxor hx hb dX3_valueOfSymbols_29 ?_
      refine lv_lstore_n (lv' := [(3, .long (x ^^^ (sy k))), (5, .int (nI k)), (0, .ref o), (1, .long bits)]) hx hb dX3_valueOfSymbols_30 rfl hl (by decide) rfl (fun ls hl => ?_)
      refine lv_iinc (v := nI (k + 1)) (lv' := [(5, .int (nI (k + 1))), (3, .long (x ^^^ (sy k))), (0, .ref o), (1, .long bits)]) hx hb dX3_valueOfSymbols_31 hl (k := 1) rfl (nI_succ _).symm (by decide) rfl (fun ls hl => ?_)
      refine lv_goto (tgt := 5) hx hb dX3_valueOfSymbols_34 (by decide) ?_
      have hi_hk : (k + 1) ≤ 32 := (by omega)
      have hi_hx9 : (x ^^^ (sy k)) = sp_vos sy bits (k + 1) := (by subst hx9; exact (if_neg c_3).symm)
      have hl9 : lv_has ls 6 [(5, .int (nI (k + 1))), (3, .long (x ^^^ (sy k))), (0, .ref o), (1, .long bits)] := lv_sub hl [0, 1, 2, 3] rfl
      exact ih_L0 (k + 1) (x ^^^ (sy k)) ls ⟨hi_hk, hi_hx9, hl9⟩ (by show 32 - (k + 1) < 32 - k; omega)
set_option maxHeartbeats 4000000 in
set_option maxRecDepth 100000 in
theorem c_Source_partValue (l : Launch) (dC : Nat → ClassId) (dI : Nat → Nat → Nat) (cA : Nat → ClassId) (o : Nat) (wa : Nat) (ua : Nat) (sa : Nat) (K : Nat) (P : Nat) (S : Nat) (seed : Int32) (T : Int32) (su : Nat → Int64) (sy : Nat → Int64) (i : Int32) (hK32 : K ≤ 32) (hP8 : P ≤ 8) : Met l yX3_partValue (kw_X3_partValue) ({ frames := 2, cells := 0, slots := 0, locals := 47 }) (va_Pc [.ref o, .int i] (fun U => kRO dC dI cA [(o, .inr (3, [.int (nI K), .int (nI P), .int (nI (K + P)), .int (nI S), .int seed, .ref wa, .int T, .ref ua, .ref sa])), (ua, .inl (cA 1, 8, .inr (.inl su))), (sa, .inl (cA 1, 32, .inr (.inl sy)))] U)) (vp_Sl (fun r => r = sp_part K P su sy i)) 0 0 (fun _ => False) := by
  refine Met.ofW (cc := cX3_partValue) (maxL := 2) (ret := (some .long)) (by decide) rfl ?_
  intro p e s m args below meth c s₁ B hml hv
  obtain ⟨rfl, hP, hK, hN⟩ := hv
  have hx := B.exec
  have hb := B.bytes
  have hr := B.returns
  have hts0 := atoms_spec (ws := (kw_X3_partValue)) B.pre
  have hts : ∀ w ∈ TB, w.before _ s = true := fun w h => hts0 w (List.mem_cons_of_mem _ h)
  have hown : s.vm.findClass RX3 = some m.cls := findClass_of_methodNamed B.named
  have hlocks := B.notSynchronized
  have hk_0 := hts (.fieldLink RX3 9 "FountainRows$Source" "symbolCount" "I") tb_38
  have hk_1 := hts (.fieldLink RX3 44 "FountainRows$Source" "symbols" "[J") tb_46
  have hl := lv_entry ([.ref o, .int i]) (n := 2) (Nat.le_of_ble_eq_true rfl)
  rw [lg_entry_eq]
  generalize (lg_sl ([.ref o, .int i]) ++ List.replicate (2 - (lg_sl ([.ref o, .int i])).length) Slot.unset).toArray = ls at hl ⊢
  have hl : lv_has ls 2 [(0, .ref o), (1, .int i)] := hl
  refine lv_aload_n hx hb dX3_partValue_0 rfl (lv_at hl 0 rfl) ?_
  refine lv_iload_n hx hb dX3_partValue_1 rfl (lv_at hl 1 rfl) ?_
  have hPc := hP.sub (ws' := [(o, .inr (3, [.int (nI K), .int (nI P), .int (nI (K + P)), .int (nI S), .int seed, .ref wa, .int T, .ref ua, .ref sa]))]) [0] rfl
  refine kq_csi (va_runV (As := [.int i]) (rest := []) ⟨hx, hb, hml, hown, hts⟩ (c_Source_hasSymbol l dC dI cA o wa ua sa K P S seed T i) (cwV 1 hts (kg_V tb_42 tb_43 tb_44 tb_45 tb_41) rfl rfl rfl (by decide +kernel) ⟨Nat.le_of_ble_eq_true rfl, Nat.le_of_ble_eq_true rfl⟩) (kpv_ro hK hN hPc (ci := 3) (q0 := 0) rfl rfl rfl) rfl rfl hl.1 rfl (lv_room (Nat.le_of_ble_eq_true rfl)) dX3_partValue_2 ⟨Nat.le_of_ble_eq_true rfl, Nat.le_of_ble_eq_true rfl⟩) (fun r_1 hr_1 => ?_)
  subst hr_1
  refine lv_if_eq (tgt := 17) hx hb dX3_partValue_5 (by decide) (fun c_2 => ?_) (fun c_2 => ?_)
  · have c_2 : (sp_has K i) = 0 := c_2
    refine lv_aload_n hx hb dX3_partValue_17 rfl (lv_at hl 0 rfl) ?_
    refine lv_aload_n hx hb dX3_partValue_18 rfl (lv_at hl 0 rfl) ?_
    refine lv_iload_n hx hb dX3_partValue_19 rfl (lv_at hl 1 rfl) ?_
    refine lv_aload_n hx hb dX3_partValue_20 rfl (lv_at hl 0 rfl) ?_
    refine va_get (D := (dC, dI)) (ci := 3) (v := .int (nI K)) (C := RX3) (T := TX3) (N := 9) hx hb hts inX3 hown hK hP 0 rfl rfl 0 (by decide) hk_0 (fun _ h9 => h9) rfl dX3_partValue_21 ?_
    refine lv_isub hx hb dX3_partValue_24 ?_
    have hPc := hP.sub (ws' := [(o, .inr (3, [.int (nI K), .int (nI P), .int (nI (K + P)), .int (nI S), .int seed, .ref wa, .int T, .ref ua, .ref sa])), (ua, .inl (cA 1, 8, .inr (.inl su)))]) [0, 1] rfl
    refine kq_csl (va_runV (As := [.int (i - (nI K))]) (rest := [.ref o]) ⟨hx, hb, hml, hown, hts⟩ (c_Source_symbolsOfSum l dC dI cA o wa ua sa K P S seed T su (i - (nI K)) (by first | assumption | omega) (by first | assumption | omega)) (cwV 1 hts (kg_V tb_57 tb_58 tb_59 tb_45 tb_56) rfl rfl rfl (by decide +kernel) ⟨Nat.le_of_ble_eq_true rfl, Nat.le_of_ble_eq_true rfl⟩) (kpv_ro hK hN hPc (ci := 3) (q0 := 0) rfl rfl rfl) rfl rfl hl.1 rfl (lv_room (Nat.le_of_ble_eq_true rfl)) dX3_partValue_25 ⟨Nat.le_of_ble_eq_true rfl, Nat.le_of_ble_eq_true rfl⟩) (fun r_3 hr_3 => ?_)
    subst hr_3
    have hPc := hP.sub (ws' := [(o, .inr (3, [.int (nI K), .int (nI P), .int (nI (K + P)), .int (nI S), .int seed, .ref wa, .int T, .ref ua, .ref sa])), (sa, .inl (cA 1, 32, .inr (.inl sy)))]) [0, 2] rfl
    refine kq_csl (va_runV (As := [.long (sp_sos P su (i - (nI K)))]) (rest := []) ⟨hx, hb, hml, hown, hts⟩ (c_Source_valueOfSymbols l dC dI cA o wa ua sa K P S seed T sy (sp_sos P su (i - (nI K)))) (cwV 1 hts (kg_V tb_61 tb_62 tb_63 tb_45 tb_60) rfl rfl rfl (by decide +kernel) ⟨Nat.le_of_ble_eq_true rfl, Nat.le_of_ble_eq_true rfl⟩) (kpv_ro hK hN hPc (ci := 3) (q0 := 0) rfl rfl rfl) rfl rfl hl.1 rfl (lv_room (Nat.le_of_ble_eq_true rfl)) dX3_partValue_28 ⟨Nat.le_of_ble_eq_true rfl, Nat.le_of_ble_eq_true rfl⟩) (fun r_4 hr_4 => ?_)
    subst hr_4
    exact W.lret (v := sp_vos sy (sp_sos P su (i - (nI K))) 32) hx hb hr (fun t9 ht9 hW9 => ⟨sp_vos sy (sp_sos P su (i - (nI K))) 32, rfl, (by unfold sp_part; rw [if_pos c_2] <;> rfl), ht9⟩) (fun _ h => absurd h List.not_mem_nil) dX3_partValue_31
  · have c_2 : ¬ ((sp_has K i) = 0) := c_2
    refine lv_aload_n hx hb dX3_partValue_8 rfl (lv_at hl 0 rfl) ?_
    refine va_get (D := (dC, dI)) (ci := 3) (v := .ref sa) (C := RX3) (T := TX3) (N := 9) hx hb hts inX3 hown hK hP 0 rfl rfl 8 (by decide) hk_1 (fun _ h9 => h9) rfl dX3_partValue_9 ?_
    refine lv_iload_n hx hb dX3_partValue_12 rfl (lv_at hl 1 rfl) ?_
    refine va_lald (D := (dC, dI)) hx hb hK hP 2 1 rfl rfl (sp_has_in c_2 hK32 (by omega)) dX3_partValue_13 ?_
    refine lv_goto (tgt := 31) hx hb dX3_partValue_14 (by decide) ?_
    exact W.lret (v := sy i.toNatClampNeg) hx hb hr (fun t9 ht9 hW9 => ⟨sy i.toNatClampNeg, rfl, (by unfold sp_part; rw [if_neg c_2] <;> rfl), ht9⟩) (fun _ h => absurd h List.not_mem_nil) dX3_partValue_31
set_option maxHeartbeats 4000000 in
set_option maxRecDepth 100000 in
theorem c_Source_drawSymbols (l : Launch) (dC : Nat → ClassId) (dI : Nat → Nat → Nat) (cA : Nat → ClassId) (z0 : Int32) (K : Nat) (hK32 : K ≤ 32) : Met l yX3_drawSymbols (kw_X3_drawSymbols) ({ frames := 1, cells := 0, slots := 0, locals := 22 }) (va_Pc [.int z0, .int (nI K)] (fun U => kRO dC dI cA [] U)) (vp_Sl (fun r => r = sp_drawb z0 K)) 0 0 (fun _ => False) := by
  refine Met.ofW (cc := cX3_drawSymbols) (maxL := 6) (ret := (some .long)) (by decide) rfl ?_
  intro p e s m args below meth c s₁ B hml hv
  obtain ⟨rfl, hP, hK, hN⟩ := hv
  have hx := B.exec
  have hb := B.bytes
  have hr := B.returns
  have hts0 := atoms_spec (ws := (kw_X3_drawSymbols)) B.pre
  have hts : ∀ w ∈ TB, w.before _ s = true := fun w h => hts0 w (List.mem_cons_of_mem _ h)
  have hown : s.vm.findClass RX3 = some m.cls := findClass_of_methodNamed B.named
  have hlocks := B.notSynchronized
  have hl := lv_entry ([.int z0, .int (nI K)]) (n := 6) (Nat.le_of_ble_eq_true rfl)
  rw [lg_entry_eq]
  generalize (lg_sl ([.int z0, .int (nI K)]) ++ List.replicate (6 - (lg_sl ([.int z0, .int (nI K)])).length) Slot.unset).toArray = ls at hl ⊢
  have hl : lv_has ls 6 [(0, .int z0), (1, .int (nI K))] := hl
  refine lv_iload_n hx hb dX3_drawSymbols_0 rfl (lv_at hl 0 rfl) ?_
  refine lv_istore_n (lv' := [(2, .int z0), (0, .int z0), (1, .int (nI K))]) hx hb dX3_drawSymbols_1 rfl hl (by decide) rfl (fun ls hl => ?_)
  refine lv_lconst (v := 0) hx hb dX3_drawSymbols_2 (by decide) ?_
  refine lv_lstore_n (lv' := [(3, .long 0), (2, .int z0), (0, .int z0), (1, .int (nI K))]) hx hb dX3_drawSymbols_3 rfl hl (by decide) rfl (fun ls hl => ?_)
  refine lv_iconst (v := 0) hx hb dX3_drawSymbols_4 (by decide) ?_
  refine lv_istore (lv' := [(5, .int 0), (3, .long 0), (2, .int z0), (0, .int z0), (1, .int (nI K))]) hx hb dX3_drawSymbols_5 hl (by decide) rfl (fun ls hl => ?_)
  have hi_hk : 0 ≤ K := (by omega)
  have hi_hz9 : z0 = sp_z z0 0 := rfl
  have hi_hx9 : 0 = sp_drawb z0 0 := rfl
  have hl9 : lv_has ls 6 [(5, .int (nI 0)), (2, .int z0), (3, .long 0), (0, .int z0), (1, .int (nI K))] := lv_sub hl [0, 2, 1, 3, 4] rfl
  refine r_loop3 (I := fun (k : Nat) (z : Int32) (x : Int64) (ls : Array Slot) => (k ≤ K) ∧ (z = sp_z z0 k) ∧ (x = sp_drawb z0 k) ∧ lv_has ls 6 [(5, .int (nI k)), (2, .int z), (3, .long x), (0, .int z0), (1, .int (nI K))]) (μ := fun k z x => K - k) ?_ 0 z0 0 ⟨hi_hk, hi_hz9, hi_hx9, hl9⟩
  intro k z x ls hI9 ih_L0
  obtain ⟨hk, hz9, hx9, hl⟩ := hI9
  refine lv_iload hx hb dX3_drawSymbols_7 (lv_at hl 0 rfl) ?_
  refine lv_iload_n hx hb dX3_drawSymbols_9 rfl (lv_at hl 4 rfl) ?_
  refine lv_icmp_ge (tgt := 43) hx hb dX3_drawSymbols_10 (by decide) (fun c_1 => ?_) (fun c_1 => ?_)
  · have c_1 : (nI K) ≤ (nI k) := c_1
    have hk9 : K ≤ k := (ku_le (a := K) (b := k) (by omega) (by omega)).mp c_1
    refine lv_lload_n hx hb dX3_drawSymbols_43 rfl (lv_at hl 2 rfl) ?_
    exact W.lret (v := x) hx hb hr (fun t9 ht9 hW9 => ⟨x, rfl, (by have e : k = K := (by omega); rw [hx9, e]), ht9⟩) (fun _ h => absurd h List.not_mem_nil) dX3_drawSymbols_44
  · have c_1 : ¬ ((nI K) ≤ (nI k)) := c_1
    have hk9 : k < K := (ku_nle (a := K) (b := k) (by omega) (by omega)).mp c_1
    refine lv_iload_n hx hb dX3_drawSymbols_13 rfl (lv_at hl 1 rfl) ?_
    have hPc := hP.sub (ws' := []) [] rfl
    refine kq_csi (va_runSN (As := [.int z]) (rest := []) ⟨hx, hb, hml, hown, hts⟩ (c_FountainRows_nextState l dC dI cA z) ⟨va_cnB 1 hts (kg_I tb_64) rfl rfl rfl (hN.2 (RX3, 56, yX5_nextState, "FountainRows") (List.mem_of_getElem? (i := 1) rfl)) (hts _ tb_54) (by decide +kernel) ⟨Nat.le_of_ble_eq_true rfl, Nat.le_of_ble_eq_true rfl⟩, hts _ tb_65, trivial⟩ (kps_ro hK hN hPc) rfl rfl hl.1 rfl (lv_room (Nat.le_of_ble_eq_true rfl)) dX3_drawSymbols_14 ⟨Nat.le_of_ble_eq_true rfl, Nat.le_of_ble_eq_true rfl⟩) (fun r_2 hr_2 => ?_)
    subst hr_2
    refine lv_istore_n (lv' := [(2, .int (sp_next z)), (5, .int (nI k)), (3, .long x), (0, .int z0), (1, .int (nI K))]) hx hb dX3_drawSymbols_17 rfl hl (by decide) rfl (fun ls hl => ?_)
    refine lv_iload_n hx hb dX3_drawSymbols_18 rfl (lv_at hl 0 rfl) ?_
    refine lv_iconst (v := 1) hx hb dX3_drawSymbols_19 (by decide) ?_
    refine lv_iushr (v := jv_ushr (sp_next z) (1 : Int32)) hx hb dX3_drawSymbols_20 rfl ?_
    refine lv_i2l (v := (jv_ushr (sp_next z) (1 : Int32)).toInt64) hx hb dX3_drawSymbols_21 rfl ?_
    refine lv_bipush (v := 30) hx hb dX3_drawSymbols_22 (by decide) ?_
    have hPc := hP.sub (ws' := []) [] rfl
    refine kq_csi (va_runSN (As := [.long ((jv_ushr (sp_next z) (1 : Int32)).toInt64), .int 30]) (rest := []) ⟨hx, hb, hml, hown, hts⟩ (c_FountainRows_hasBit l dC dI cA ((jv_ushr (sp_next z) (1 : Int32)).toInt64) 30) ⟨va_cnB 2 hts (kg_I tb_53) rfl rfl rfl (hN.2 (RX3, 60, yX5_hasBit, "FountainRows") (List.mem_of_getElem? (i := 2) rfl)) (hts _ tb_54) (by decide +kernel) ⟨Nat.le_of_ble_eq_true rfl, Nat.le_of_ble_eq_true rfl⟩, hts _ tb_55, trivial⟩ (kps_ro hK hN hPc) rfl rfl hl.1 rfl (lv_room (Nat.le_of_ble_eq_true rfl)) dX3_drawSymbols_24 ⟨Nat.le_of_ble_eq_true rfl, Nat.le_of_ble_eq_true rfl⟩) (fun r_3 hr_3 => ?_)
    subst hr_3
    refine lv_if_eq (tgt := 37) hx hb dX3_drawSymbols_27 (by decide) (fun c_4 => ?_) (fun c_4 => ?_)
    · have c_4 : (sp_bit ((jv_ushr (sp_next z) (1 : Int32)).toInt64) 30) = 0 := c_4
      refine lv_iinc (v := nI (k + 1)) (lv' := [(5, .int (nI (k + 1))), (2, .int (sp_next z)), (3, .long x), (0, .int z0), (1, .int (nI K))]) hx hb dX3_drawSymbols_37 hl (k := 1) rfl (nI_succ _).symm (by decide) rfl (fun ls hl => ?_)
      refine lv_goto (tgt := 7) hx hb dX3_drawSymbols_40 (by decide) ?_
      have hi_hk : (k + 1) ≤ K := (by omega)
      have hi_hz9 : (sp_next z) = sp_z z0 (k + 1) := (by rw [hz9]; rfl)
      have hi_hx9 : x = sp_drawb z0 (k + 1) := (by subst hz9; subst hx9; exact (if_pos c_4).symm)
      have hl9 : lv_has ls 6 [(5, .int (nI (k + 1))), (2, .int (sp_next z)), (3, .long x), (0, .int z0), (1, .int (nI K))] := lv_sub hl [0, 1, 2, 3, 4] rfl
      exact ih_L0 (k + 1) (sp_next z) x ls ⟨hi_hk, hi_hz9, hi_hx9, hl9⟩ (by show K - (k + 1) < K - k; omega)
    · have c_4 : ¬ ((sp_bit ((jv_ushr (sp_next z) (1 : Int32)).toInt64) 30) = 0) := c_4
      refine lv_lload_n hx hb dX3_drawSymbols_30 rfl (lv_at hl 2 rfl) ?_
      refine lv_lconst (v := 1) hx hb dX3_drawSymbols_31 (by decide) ?_
      refine lv_iload hx hb dX3_drawSymbols_32 (lv_at hl 1 rfl) ?_
      refine lv_lshl (v := jv_lshl 1 (nI k)) hx hb dX3_drawSymbols_34 rfl ?_
      refine lv_lor hx hb dX3_drawSymbols_35 ?_
      refine lv_lstore_n (lv' := [(3, .long (x ||| (jv_lshl 1 (nI k)))), (2, .int (sp_next z)), (5, .int (nI k)), (0, .int z0), (1, .int (nI K))]) hx hb dX3_drawSymbols_36 rfl hl (by decide) rfl (fun ls hl => ?_)
      refine lv_iinc (v := nI (k + 1)) (lv' := [(5, .int (nI (k + 1))), (3, .long (x ||| (jv_lshl 1 (nI k)))), (2, .int (sp_next z)), (0, .int z0), (1, .int (nI K))]) hx hb dX3_drawSymbols_37 hl (k := 2) rfl (nI_succ _).symm (by decide) rfl (fun ls hl => ?_)
      refine lv_goto (tgt := 7) hx hb dX3_drawSymbols_40 (by decide) ?_
      have hi_hk : (k + 1) ≤ K := (by omega)
      have hi_hz9 : (sp_next z) = sp_z z0 (k + 1) := (by rw [hz9]; rfl)
      have hi_hx9 : (x ||| (jv_lshl 1 (nI k))) = sp_drawb z0 (k + 1) := (by subst hz9; subst hx9; exact (if_neg c_4).symm)
      have hl9 : lv_has ls 6 [(5, .int (nI (k + 1))), (2, .int (sp_next z)), (3, .long (x ||| (jv_lshl 1 (nI k)))), (0, .int z0), (1, .int (nI K))] := lv_sub hl [0, 2, 1, 3, 4] rfl
      exact ih_L0 (k + 1) (sp_next z) (x ||| (jv_lshl 1 (nI k))) ls ⟨hi_hk, hi_hz9, hi_hx9, hl9⟩ (by show K - (k + 1) < K - k; omega)
set_option maxHeartbeats 4000000 in
set_option maxRecDepth 100000 in
theorem c_Source_degreeFor (l : Launch) (dC : Nat → ClassId) (dI : Nat → Nat → Nat) (cA : Nat → ClassId) (o : Nat) (wa : Nat) (ua : Nat) (sa : Nat) (K : Nat) (P : Nat) (S : Nat) (seed : Int32) (T : Int32) (w : Nat → Int32) (t : Int32)  : Met l yX3_degreeFor (kw_X3_degreeFor) ({ frames := 0, cells := 0, slots := 0, locals := 0 }) (va_Pc [.ref o, .int t] (fun U => kRO dC dI cA [(o, .inr (3, [.int (nI K), .int (nI P), .int (nI (K + P)), .int (nI S), .int seed, .ref wa, .int T, .ref ua, .ref sa])), (wa, .inl (cA 0, 12, .inl w))] U)) (vp_Si (fun r => r = nI (sp_deg w t 12 0 0))) 0 0 (fun _ => False) := by
  refine Met.ofW (cc := cX3_degreeFor) (maxL := 4) (ret := (some .int)) (by decide) rfl ?_
  intro p e s m args below meth c s₁ B hml hv
  obtain ⟨rfl, hP, hK, hN⟩ := hv
  have hx := B.exec
  have hb := B.bytes
  have hr := B.returns
  have hts0 := atoms_spec (ws := (kw_X3_degreeFor)) B.pre
  have hts : ∀ w ∈ TB, w.before _ s = true := fun w h => hts0 w (List.mem_cons_of_mem _ h)
  have hown : s.vm.findClass RX3 = some m.cls := findClass_of_methodNamed B.named
  have hlocks := B.notSynchronized
  have hk_0 := hts (.fieldLink RX3 27 "FountainRows$Source" "ownWeights" "[I") tb_66
  have hl := lv_entry ([.ref o, .int t]) (n := 4) (Nat.le_of_ble_eq_true rfl)
  rw [lg_entry_eq]
  generalize (lg_sl ([.ref o, .int t]) ++ List.replicate (4 - (lg_sl ([.ref o, .int t])).length) Slot.unset).toArray = ls at hl ⊢
  have hl : lv_has ls 4 [(0, .ref o), (1, .int t)] := hl
  refine lv_iconst (v := 0) hx hb dX3_degreeFor_0 (by decide) ?_
  refine lv_istore_n (lv' := [(2, .int 0), (0, .ref o), (1, .int t)]) hx hb dX3_degreeFor_1 rfl hl (by decide) rfl (fun ls hl => ?_)
  refine lv_iconst (v := 1) hx hb dX3_degreeFor_2 (by decide) ?_
  refine lv_istore_n (lv' := [(3, .int 1), (2, .int 0), (0, .ref o), (1, .int t)]) hx hb dX3_degreeFor_3 rfl hl (by decide) rfl (fun ls hl => ?_)
  have hi_hd : 0 ≤ 12 := (by omega)
  have hi_hrem : sp_deg w t (12 - 0) 0 0 = sp_deg w t 12 0 0 := rfl
  have hl9 : lv_has ls 4 [(3, .int (nI (0 + 1))), (2, .int 0), (0, .ref o), (1, .int t)] := lv_sub hl [0, 1, 2, 3] rfl
  refine r_loop2 (I := fun (d : Nat) (x : Int32) (ls : Array Slot) => (d ≤ 12) ∧ (sp_deg w t (12 - d) d x = sp_deg w t 12 0 0) ∧ lv_has ls 4 [(3, .int (nI (d + 1))), (2, .int x), (0, .ref o), (1, .int t)]) (μ := fun d x => 12 - d) ?_ 0 0 ⟨hi_hd, hi_hrem, hl9⟩
  intro d x ls hI9 ih_L0
  obtain ⟨hd, hrem, hl⟩ := hI9
  refine lv_iload_n hx hb dX3_degreeFor_4 rfl (lv_at hl 0 rfl) ?_
  refine lv_bipush (v := 12) hx hb dX3_degreeFor_5 (by decide) ?_
  refine lv_icmp_gt (tgt := 34) hx hb dX3_degreeFor_7 (by decide) (fun c_1 => ?_) (fun c_1 => ?_)
  · have c_1 : 12 < (nI (d + 1)) := c_1
    have hk9 : 12 < (d + 1) := (nI_ltI (a := 12) (b := (d + 1)) (by omega) (by omega)).mp c_1
    refine lv_bipush (v := 12) hx hb dX3_degreeFor_34 (by decide) ?_
    exact W.iret (v := 12) hx hb hr (fun t9 ht9 hW9 => ⟨12, rfl, (by rw [← hrem, show 12 - d = 0 from (by omega)]; rfl), ht9⟩) (fun _ h => absurd h List.not_mem_nil) dX3_degreeFor_36
  · have c_1 : ¬ (12 < (nI (d + 1))) := c_1
    have hk9 : (d + 1) ≤ 12 := by have := mt (nI_ltI (a := 12) (b := (d + 1)) (by omega) (by omega)).mpr c_1; omega
    refine lv_iload_n hx hb dX3_degreeFor_10 rfl (lv_at hl 1 rfl) ?_
    refine lv_aload_n hx hb dX3_degreeFor_11 rfl (lv_at hl 2 rfl) ?_
    refine va_get (D := (dC, dI)) (ci := 3) (v := .ref wa) (C := RX3) (T := TX3) (N := 9) hx hb hts inX3 hown hK hP 0 rfl rfl 5 (by decide) hk_0 (fun _ h9 => h9) rfl dX3_degreeFor_12 ?_
    refine lv_iload_n hx hb dX3_degreeFor_15 rfl (lv_at hl 0 rfl) ?_
    refine lv_iconst (v := 1) hx hb dX3_degreeFor_16 (by decide) ?_
    refine lv_isub hx hb dX3_degreeFor_17 ?_
    refine kt_i (y := nI d) (nI_pred d) ?_
    refine va_iald (D := (dC, dI)) hx hb hK hP 1 0 rfl rfl (vp_in_nI (by omega) (by omega)) dX3_degreeFor_18 ?_
    refine kt_i (congrArg w (nI_clamp (by omega : d < 2 ^ 31))) ?_
    refine lv_iadd hx hb dX3_degreeFor_19 ?_
    refine lv_istore_n (lv' := [(2, .int (x + (w d))), (3, .int (nI (d + 1))), (0, .ref o), (1, .int t)]) hx hb dX3_degreeFor_20 rfl hl (by decide) rfl (fun ls hl => ?_)
    refine lv_iload_n hx hb dX3_degreeFor_21 rfl (lv_at hl 0 rfl) ?_
    refine lv_iload_n hx hb dX3_degreeFor_22 rfl (lv_at hl 3 rfl) ?_
    refine lv_icmp_le (tgt := 28) hx hb dX3_degreeFor_23 (by decide) (fun c_2 => ?_) (fun c_2 => ?_)
    · have c_2 : (x + (w d)) ≤ t := c_2
      refine lv_iinc (v := nI ((d + 1) + 1)) (lv' := [(3, .int (nI ((d + 1) + 1))), (2, .int (x + (w d))), (0, .ref o), (1, .int t)]) hx hb dX3_degreeFor_28 hl (k := 1) rfl (nI_succ _).symm (by decide) rfl (fun ls hl => ?_)
      refine lv_goto (tgt := 4) hx hb dX3_degreeFor_31 (by decide) ?_
      have hi_hd : (d + 1) ≤ 12 := (by omega)
      have hi_hrem : sp_deg w t (12 - (d + 1)) (d + 1) (x + (w d)) = sp_deg w t 12 0 0 := (by rw [← hrem, show 12 - d = (12 - (d + 1)) + 1 from (by omega)]; exact (if_pos (by assumption)).symm)
      have hl9 : lv_has ls 4 [(3, .int (nI ((d + 1) + 1))), (2, .int (x + (w d))), (0, .ref o), (1, .int t)] := lv_sub hl [0, 1, 2, 3] rfl
      exact ih_L0 (d + 1) (x + (w d)) ls ⟨hi_hd, hi_hrem, hl9⟩ (by show 12 - (d + 1) < 12 - d; omega)
    · have c_2 : ¬ ((x + (w d)) ≤ t) := c_2
      refine lv_iload_n hx hb dX3_degreeFor_26 rfl (lv_at hl 1 rfl) ?_
      exact W.iret (v := nI (d + 1)) hx hb hr (fun t9 ht9 hW9 => ⟨nI (d + 1), rfl, (by rw [← hrem, show 12 - d = (12 - (d + 1)) + 1 from (by omega)]; exact congrArg nI (if_neg (by assumption)).symm), ht9⟩) (fun _ h => absurd h List.not_mem_nil) dX3_degreeFor_27
set_option maxHeartbeats 4000000 in
set_option maxRecDepth 100000 in
theorem c_Source_firstOutside (l : Launch) (dC : Nat → ClassId) (dI : Nat → Nat → Nat) (cA : Nat → ClassId) (o : Nat) (wa : Nat) (ua : Nat) (sa : Nat) (K : Nat) (P : Nat) (S : Nat) (seed : Int32) (T : Int32) (bits : Int64) (i0 : Nat) (hK32 : K ≤ 32) (hP8 : P ≤ 8) (hi0 : i0 < K + P) : Met l yX3_firstOutside (kw_X3_firstOutside) ({ frames := 1, cells := 0, slots := 0, locals := 22 }) (va_Pc [.ref o, .long bits, .int (nI i0)] (fun U => kRO dC dI cA [(o, .inr (3, [.int (nI K), .int (nI P), .int (nI (K + P)), .int (nI S), .int seed, .ref wa, .int T, .ref ua, .ref sa]))] U)) (vp_Si (fun r => r = nI (sp_fo (K + P) bits (K + P) i0))) 0 0 (fun _ => False) := by
  refine Met.ofW (cc := cX3_firstOutside) (maxL := 6) (ret := (some .int)) (by decide) rfl ?_
  intro p e s m args below meth c s₁ B hml hv
  obtain ⟨rfl, hP, hK, hN⟩ := hv
  have hx := B.exec
  have hb := B.bytes
  have hr := B.returns
  have hts0 := atoms_spec (ws := (kw_X3_firstOutside)) B.pre
  have hts : ∀ w ∈ TB, w.before _ s = true := fun w h => hts0 w (List.mem_cons_of_mem _ h)
  have hown : s.vm.findClass RX3 = some m.cls := findClass_of_methodNamed B.named
  have hlocks := B.notSynchronized
  have hk_0 := hts (.fieldLink RX3 18 "FountainRows$Source" "partCount" "I") tb_40
  have hl := lv_entry ([.ref o, .long bits, .int (nI i0)]) (n := 6) (Nat.le_of_ble_eq_true rfl)
  rw [lg_entry_eq]
  generalize (lg_sl ([.ref o, .long bits, .int (nI i0)]) ++ List.replicate (6 - (lg_sl ([.ref o, .long bits, .int (nI i0)])).length) Slot.unset).toArray = ls at hl ⊢
  have hl : lv_has ls 6 [(0, .ref o), (1, .long bits), (3, .int (nI i0))] := hl
  refine lv_iload_n hx hb dX3_firstOutside_0 rfl (lv_at hl 2 rfl) ?_
  refine lv_istore (lv' := [(4, .int (nI i0)), (0, .ref o), (1, .long bits), (3, .int (nI i0))]) hx hb dX3_firstOutside_1 hl (by decide) rfl (fun ls hl => ?_)
  refine lv_iconst (v := 0) hx hb dX3_firstOutside_3 (by decide) ?_
  refine lv_istore (lv' := [(5, .int 0), (4, .int (nI i0)), (0, .ref o), (1, .long bits), (3, .int (nI i0))]) hx hb dX3_firstOutside_4 hl (by decide) rfl (fun ls hl => ?_)
  have hi_hq : 0 ≤ K + P := (by omega)
  have hi_hi : i0 < K + P := hi0
  have hi_hrem : sp_fo (K + P) bits (K + P - 0) i0 = sp_fo (K + P) bits (K + P) i0 := rfl
  have hl9 : lv_has ls 6 [(5, .int (nI 0)), (4, .int (nI i0)), (0, .ref o), (1, .long bits), (3, .int (nI i0))] := lv_sub hl [0, 1, 2, 3, 4] rfl
  refine r_loop2 (I := fun (q : Nat) (i : Nat) (ls : Array Slot) => (q ≤ K + P) ∧ (i < K + P) ∧ (sp_fo (K + P) bits (K + P - q) i = sp_fo (K + P) bits (K + P) i0) ∧ lv_has ls 6 [(5, .int (nI q)), (4, .int (nI i)), (0, .ref o), (1, .long bits), (3, .int (nI i0))]) (μ := fun q i => K + P - q) ?_ 0 i0 ⟨hi_hq, hi_hi, hi_hrem, hl9⟩
  intro q i ls hI9 ih_L0
  obtain ⟨hq, hi, hrem, hl⟩ := hI9
  refine lv_iload hx hb dX3_firstOutside_6 (lv_at hl 0 rfl) ?_
  refine lv_aload_n hx hb dX3_firstOutside_8 rfl (lv_at hl 2 rfl) ?_
  refine va_get (D := (dC, dI)) (ci := 3) (v := .int (nI (K + P))) (C := RX3) (T := TX3) (N := 9) hx hb hts inX3 hown hK hP 0 rfl rfl 2 (by decide) hk_0 (fun _ h9 => h9) rfl dX3_firstOutside_9 ?_
  refine lv_icmp_ge (tgt := 51) hx hb dX3_firstOutside_12 (by decide) (fun c_1 => ?_) (fun c_1 => ?_)
  · have c_1 : (nI (K + P)) ≤ (nI q) := c_1
    have hk9 : (K + P) ≤ q := (ku_le (a := (K + P)) (b := q) (by omega) (by omega)).mp c_1
    refine lv_iload hx hb dX3_firstOutside_51 (lv_at hl 1 rfl) ?_
    exact W.iret (v := nI i) hx hb hr (fun t9 ht9 hW9 => ⟨nI i, rfl, (by rw [← hrem]; first | (rw [show K + P - q = 0 from (by omega)]; rfl) | (rw [show K + P - q = (K + P - (q + 1)) + 1 from (by omega)]; exact congrArg nI (if_pos hbit).symm)), ht9⟩) (fun _ h => absurd h List.not_mem_nil) dX3_firstOutside_53
  · have c_1 : ¬ ((nI (K + P)) ≤ (nI q)) := c_1
    have hk9 : q < (K + P) := (ku_nle (a := (K + P)) (b := q) (by omega) (by omega)).mp c_1
    refine lv_lload_n hx hb dX3_firstOutside_15 rfl (lv_at hl 3 rfl) ?_
    refine lv_iload hx hb dX3_firstOutside_16 (lv_at hl 1 rfl) ?_
    have hPc := hP.sub (ws' := []) [] rfl
    refine kq_csi (va_runSN (As := [.long bits, .int (nI i)]) (rest := []) ⟨hx, hb, hml, hown, hts⟩ (c_FountainRows_hasBit l dC dI cA bits (nI i)) ⟨va_cnB 2 hts (kg_I tb_53) rfl rfl rfl (hN.2 (RX3, 60, yX5_hasBit, "FountainRows") (List.mem_of_getElem? (i := 2) rfl)) (hts _ tb_54) (by decide +kernel) ⟨Nat.le_of_ble_eq_true rfl, Nat.le_of_ble_eq_true rfl⟩, hts _ tb_55, trivial⟩ (kps_ro hK hN hPc) rfl rfl hl.1 rfl (lv_room (Nat.le_of_ble_eq_true rfl)) dX3_firstOutside_18 ⟨Nat.le_of_ble_eq_true rfl, Nat.le_of_ble_eq_true rfl⟩) (fun r_2 hr_2 => ?_)
    subst hr_2
    refine lv_if_eq (tgt := 51) hx hb dX3_firstOutside_21 (by decide) (fun c_3 => ?_) (fun c_3 => ?_)
    · have c_3 : (sp_bit bits (nI i)) = 0 := c_3
      have hbit := c_3
      refine lv_iload hx hb dX3_firstOutside_51 (lv_at hl 1 rfl) ?_
      exact W.iret (v := nI i) hx hb hr (fun t9 ht9 hW9 => ⟨nI i, rfl, (by rw [← hrem]; first | (rw [show K + P - q = 0 from (by omega)]; rfl) | (rw [show K + P - q = (K + P - (q + 1)) + 1 from (by omega)]; exact congrArg nI (if_pos hbit).symm)), ht9⟩) (fun _ h => absurd h List.not_mem_nil) dX3_firstOutside_53
    · have c_3 : ¬ ((sp_bit bits (nI i)) = 0) := c_3
      have hbit := c_3
      refine lv_iload hx hb dX3_firstOutside_24 (lv_at hl 1 rfl) ?_
      refine lv_iconst (v := 1) hx hb dX3_firstOutside_26 (by decide) ?_
      refine lv_iadd hx hb dX3_firstOutside_27 ?_
      refine kt_i (y := nI (i + 1)) (nI_add i 1) ?_
      refine lv_aload_n hx hb dX3_firstOutside_28 rfl (lv_at hl 2 rfl) ?_
      refine va_get (D := (dC, dI)) (ci := 3) (v := .int (nI (K + P))) (C := RX3) (T := TX3) (N := 9) hx hb hts inX3 hown hK hP 0 rfl rfl 2 (by decide) hk_0 (fun _ h9 => h9) rfl dX3_firstOutside_29 ?_
      refine lv_icmp_ge (tgt := 42) hx hb dX3_firstOutside_32 (by decide) (fun c_4 => ?_) (fun c_4 => ?_)
      · have c_4 : (nI (K + P)) ≤ (nI (i + 1)) := c_4
        have hk8 : K + P ≤ i + 1 := (ku_le (by omega) (by omega)).mp c_4
        refine lv_iconst (v := 0) hx hb dX3_firstOutside_42 (by decide) ?_
        refine lv_istore (lv' := [(4, .int 0), (5, .int (nI q)), (0, .ref o), (1, .long bits), (3, .int (nI i0))]) hx hb dX3_firstOutside_43 hl (by decide) rfl (fun ls hl => ?_)
        refine lv_iinc (v := nI (q + 1)) (lv' := [(5, .int (nI (q + 1))), (4, .int 0), (0, .ref o), (1, .long bits), (3, .int (nI i0))]) hx hb dX3_firstOutside_45 hl (k := 1) rfl (nI_succ _).symm (by decide) rfl (fun ls hl => ?_)
        refine lv_goto (tgt := 6) hx hb dX3_firstOutside_48 (by decide) ?_
        have hi_hq : (q + 1) ≤ K + P := (by omega)
        have hi_hi : 0 < K + P := (by omega)
        have hi_hrem : sp_fo (K + P) bits (K + P - (q + 1)) 0 = sp_fo (K + P) bits (K + P) i0 := (by rw [← hrem, show K + P - q = (K + P - (q + 1)) + 1 from (by omega)]; refine Eq.symm ((if_neg hbit).trans ?_); first | rw [if_pos hk8] | rw [if_neg (by omega)])
        have hl9 : lv_has ls 6 [(5, .int (nI (q + 1))), (4, .int (nI 0)), (0, .ref o), (1, .long bits), (3, .int (nI i0))] := lv_sub hl [0, 1, 2, 3, 4] rfl
        exact ih_L0 (q + 1) 0 ls ⟨hi_hq, hi_hi, hi_hrem, hl9⟩ (by show K + P - (q + 1) < K + P - q; omega)
      · have c_4 : ¬ ((nI (K + P)) ≤ (nI (i + 1))) := c_4
        have hk8 : i + 1 < K + P := (ku_nle (by omega) (by omega)).mp c_4
        refine lv_iload hx hb dX3_firstOutside_35 (lv_at hl 1 rfl) ?_
        refine lv_iconst (v := 1) hx hb dX3_firstOutside_37 (by decide) ?_
        refine lv_iadd hx hb dX3_firstOutside_38 ?_
        refine kt_i (y := nI (i + 1)) (nI_add i 1) ?_
        refine lv_goto (tgt := 43) hx hb dX3_firstOutside_39 (by decide) ?_
        refine lv_istore (lv' := [(4, .int (nI (i + 1))), (5, .int (nI q)), (0, .ref o), (1, .long bits), (3, .int (nI i0))]) hx hb dX3_firstOutside_43 hl (by decide) rfl (fun ls hl => ?_)
        refine lv_iinc (v := nI (q + 1)) (lv' := [(5, .int (nI (q + 1))), (4, .int (nI (i + 1))), (0, .ref o), (1, .long bits), (3, .int (nI i0))]) hx hb dX3_firstOutside_45 hl (k := 1) rfl (nI_succ _).symm (by decide) rfl (fun ls hl => ?_)
        refine lv_goto (tgt := 6) hx hb dX3_firstOutside_48 (by decide) ?_
        have hi_hq : (q + 1) ≤ K + P := (by omega)
        have hi_hi : (i + 1) < K + P := (by omega)
        have hi_hrem : sp_fo (K + P) bits (K + P - (q + 1)) (i + 1) = sp_fo (K + P) bits (K + P) i0 := (by rw [← hrem, show K + P - q = (K + P - (q + 1)) + 1 from (by omega)]; refine Eq.symm ((if_neg hbit).trans ?_); first | rw [if_pos hk8] | rw [if_neg (by omega)])
        have hl9 : lv_has ls 6 [(5, .int (nI (q + 1))), (4, .int (nI (i + 1))), (0, .ref o), (1, .long bits), (3, .int (nI i0))] := lv_sub hl [0, 1, 2, 3, 4] rfl
        exact ih_L0 (q + 1) (i + 1) ls ⟨hi_hq, hi_hi, hi_hrem, hl9⟩ (by show K + P - (q + 1) < K + P - q; omega)
set_option maxHeartbeats 4000000 in
set_option maxRecDepth 100000 in
theorem c_Source_rowOf (l : Launch) (dC : Nat → ClassId) (dI : Nat → Nat → Nat) (cA : Nat → ClassId) (o : Nat) (wa : Nat) (ua : Nat) (sa : Nat) (K : Nat) (P : Nat) (S : Nat) (seed : Int32) (T : Int32) (w : Nat → Int32) (x : Int32) (hK32 : K ≤ 32) (hP8 : P ≤ 8) (hK1 : 1 ≤ K) : Met l yX3_rowOf (kw_X3_rowOf) ({ frames := 2, cells := 0, slots := 0, locals := 47 }) (va_Pc [.ref o, .int x] (fun U => kRO dC dI cA [(o, .inr (3, [.int (nI K), .int (nI P), .int (nI (K + P)), .int (nI S), .int seed, .ref wa, .int T, .ref ua, .ref sa])), (wa, .inl (cA 0, 12, .inl w))] U)) (vp_Sl (fun r => r = sp_row K P seed w T x)) 0 0 (fun _ => False) := by
  refine Met.ofW (cc := cX3_rowOf) (maxL := 7) (ret := (some .long)) (by decide) rfl ?_
  intro p e s m args below meth c s₁ B hml hv
  obtain ⟨rfl, hP, hK, hN⟩ := hv
  have hx := B.exec
  have hb := B.bytes
  have hr := B.returns
  have hts0 := atoms_spec (ws := (kw_X3_rowOf)) B.pre
  have hts : ∀ w ∈ TB, w.before _ s = true := fun w h => hts0 w (List.mem_cons_of_mem _ h)
  have hown : s.vm.findClass RX3 = some m.cls := findClass_of_methodNamed B.named
  have hlocks := B.notSynchronized
  have hk_0 := hts (.fieldLink RX3 24 "FountainRows$Source" "seed" "I") tb_77
  have hk_1 := hts (.constant RX3 51 40503) tb_78
  have hk_2 := hts (.fieldLink RX3 41 "FountainRows$Source" "totalWeight" "I") tb_79
  have hk_3 := hts (.fieldLink RX3 18 "FountainRows$Source" "partCount" "I") tb_40
  have hk_4 := hts (.methodLink RX3 92 Lib.Math.min.name) tb_80
  have hk_5 := hts (.static Lib.Math.min.name) tb_81
  have hk_6 := hts (.initialized "java/lang/Math") tb_35
  have hk_7 := hts (.code Lib.Math.min.name Lib.Math.min.code 2 (some .int)) tb_82
  have hl := lv_entry ([.ref o, .int x]) (n := 7) (Nat.le_of_ble_eq_true rfl)
  rw [lg_entry_eq]
  generalize (lg_sl ([.ref o, .int x]) ++ List.replicate (7 - (lg_sl ([.ref o, .int x])).length) Slot.unset).toArray = ls at hl ⊢
  have hl : lv_has ls 7 [(0, .ref o), (1, .int x)] := hl
  refine lv_aload_n hx hb dX3_rowOf_0 rfl (lv_at hl 0 rfl) ?_
  refine lv_iload_n hx hb dX3_rowOf_1 rfl (lv_at hl 1 rfl) ?_
  have hPc := hP.sub (ws' := [(o, .inr (3, [.int (nI K), .int (nI P), .int (nI (K + P)), .int (nI S), .int seed, .ref wa, .int T, .ref ua, .ref sa]))]) [0] rfl
  refine kq_csi (va_runV (As := [.int x]) (rest := []) ⟨hx, hb, hml, hown, hts⟩ (c_Source_hasSymbol l dC dI cA o wa ua sa K P S seed T x) (cwV 1 hts (kg_V tb_42 tb_43 tb_44 tb_45 tb_41) rfl rfl rfl (by decide +kernel) ⟨Nat.le_of_ble_eq_true rfl, Nat.le_of_ble_eq_true rfl⟩) (kpv_ro hK hN hPc (ci := 3) (q0 := 0) rfl rfl rfl) rfl rfl hl.1 rfl (lv_room (Nat.le_of_ble_eq_true rfl)) dX3_rowOf_2 ⟨Nat.le_of_ble_eq_true rfl, Nat.le_of_ble_eq_true rfl⟩) (fun r_1 hr_1 => ?_)
  subst hr_1
  refine lv_if_eq (tgt := 12) hx hb dX3_rowOf_5 (by decide) (fun c_2 => ?_) (fun c_2 => ?_)
  · have c_2 : (sp_has K x) = 0 := c_2
    refine lv_aload_n hx hb dX3_rowOf_12 rfl (lv_at hl 0 rfl) ?_
    refine va_get (D := (dC, dI)) (ci := 3) (v := .int seed) (C := RX3) (T := TX3) (N := 9) hx hb hts inX3 hown hK hP 0 rfl rfl 4 (by decide) hk_0 (fun _ h9 => h9) rfl dX3_rowOf_13 ?_
    refine lv_iload_n hx hb dX3_rowOf_16 rfl (lv_at hl 1 rfl) ?_
    refine lv_ldc (v := 40503) hx hb hown hk_1 dX3_rowOf_17 ?_
    refine lv_imul hx hb dX3_rowOf_19 ?_
    refine lv_ixor hx hb dX3_rowOf_20 ?_
    have hPc := hP.sub (ws' := []) [] rfl
    refine kq_csi (va_runSN (As := [.int (seed ^^^ (x * 40503))]) (rest := []) ⟨hx, hb, hml, hown, hts⟩ (c_FountainRows_nextState l dC dI cA (seed ^^^ (x * 40503))) ⟨va_cnB 1 hts (kg_I tb_64) rfl rfl rfl (hN.2 (RX3, 56, yX5_nextState, "FountainRows") (List.mem_of_getElem? (i := 1) rfl)) (hts _ tb_54) (by decide +kernel) ⟨Nat.le_of_ble_eq_true rfl, Nat.le_of_ble_eq_true rfl⟩, hts _ tb_65, trivial⟩ (kps_ro hK hN hPc) rfl rfl hl.1 rfl (lv_room (Nat.le_of_ble_eq_true rfl)) dX3_rowOf_21 ⟨Nat.le_of_ble_eq_true rfl, Nat.le_of_ble_eq_true rfl⟩) (fun r_3 hr_3 => ?_)
    subst hr_3
    refine lv_istore_n (lv' := [(2, .int (sp_next (seed ^^^ (x * 40503)))), (0, .ref o), (1, .int x)]) hx hb dX3_rowOf_24 rfl hl (by decide) rfl (fun ls hl => ?_)
    refine lv_aload_n hx hb dX3_rowOf_25 rfl (lv_at hl 1 rfl) ?_
    refine lv_iload_n hx hb dX3_rowOf_26 rfl (lv_at hl 0 rfl) ?_
    refine lv_aload_n hx hb dX3_rowOf_27 rfl (lv_at hl 1 rfl) ?_
    refine va_get (D := (dC, dI)) (ci := 3) (v := .int T) (C := RX3) (T := TX3) (N := 9) hx hb hts inX3 hown hK hP 0 rfl rfl 6 (by decide) hk_2 (fun _ h9 => h9) rfl dX3_rowOf_28 ?_
    have hPc := hP.sub (ws' := []) [] rfl
    refine kq_csi (va_runSN (As := [.int (sp_next (seed ^^^ (x * 40503))), .int T]) (rest := [.ref o]) ⟨hx, hb, hml, hown, hts⟩ (c_FountainRows_drawnModulo l dC dI cA (sp_next (seed ^^^ (x * 40503))) T) ⟨va_cnB 2 hts (kg_I tb_67) rfl rfl rfl (hN.2 (RX3, 85, yX5_drawnModulo, "FountainRows") (List.mem_of_getElem? (i := 6) rfl)) (hts _ tb_54) (by decide +kernel) ⟨Nat.le_of_ble_eq_true rfl, Nat.le_of_ble_eq_true rfl⟩, hts _ tb_68, trivial⟩ (kps_ro hK hN hPc) rfl rfl hl.1 rfl (lv_room (Nat.le_of_ble_eq_true rfl)) dX3_rowOf_31 ⟨Nat.le_of_ble_eq_true rfl, Nat.le_of_ble_eq_true rfl⟩) (fun r_4 hr_4 => ?_)
    subst hr_4
    have hPc := hP.sub (ws' := [(o, .inr (3, [.int (nI K), .int (nI P), .int (nI (K + P)), .int (nI S), .int seed, .ref wa, .int T, .ref ua, .ref sa])), (wa, .inl (cA 0, 12, .inl w))]) [0, 1] rfl
    refine kq_csi (va_runV (As := [.int (sp_mod (sp_next (seed ^^^ (x * 40503))) T)]) (rest := []) ⟨hx, hb, hml, hown, hts⟩ (c_Source_degreeFor l dC dI cA o wa ua sa K P S seed T w (sp_mod (sp_next (seed ^^^ (x * 40503))) T)) (cwV 1 hts (kg_V tb_70 tb_71 tb_72 tb_45 tb_69) rfl rfl rfl (by decide +kernel) ⟨Nat.le_of_ble_eq_true rfl, Nat.le_of_ble_eq_true rfl⟩) (kpv_ro hK hN hPc (ci := 3) (q0 := 0) rfl rfl rfl) rfl rfl hl.1 rfl (lv_room (Nat.le_of_ble_eq_true rfl)) dX3_rowOf_34 ⟨Nat.le_of_ble_eq_true rfl, Nat.le_of_ble_eq_true rfl⟩) (fun r_5 hr_5 => ?_)
    subst hr_5
    refine lv_aload_n hx hb dX3_rowOf_37 rfl (lv_at hl 1 rfl) ?_
    refine va_get (D := (dC, dI)) (ci := 3) (v := .int (nI (K + P))) (C := RX3) (T := TX3) (N := 9) hx hb hts inX3 hown hK hP 0 rfl rfl 2 (by decide) hk_3 (fun _ h9 => h9) rfl dX3_rowOf_38 ?_
    refine va_mmin hx hb (by rw [hml]; exact hl.1.symm) hown hk_4 hk_5 hk_6 hk_7 (Nat.le_of_ble_eq_true rfl) (Nat.le_of_ble_eq_true rfl) (Nat.le_of_ble_eq_true rfl) (Nat.le_of_ble_eq_true rfl) dX3_rowOf_41 ?_
    refine kt_i (y := nI (sp_want (K + P) w T (sp_next (seed ^^^ (x * 40503))))) (sp_min (by have := sp_deg_in w (sp_mod (sp_next (seed ^^^ (x * 40503))) T) 12 0 0 rfl; omega) (by omega)) ?_
    refine lv_istore_n (lv' := [(3, .int (nI (sp_want (K + P) w T (sp_next (seed ^^^ (x * 40503)))))), (2, .int (sp_next (seed ^^^ (x * 40503)))), (0, .ref o), (1, .int x)]) hx hb dX3_rowOf_44 rfl hl (by decide) rfl (fun ls hl => ?_)
    refine lv_lconst (v := 0) hx hb dX3_rowOf_45 (by decide) ?_
    refine lv_lstore (lv' := [(4, .long 0), (3, .int (nI (sp_want (K + P) w T (sp_next (seed ^^^ (x * 40503)))))), (2, .int (sp_next (seed ^^^ (x * 40503)))), (0, .ref o), (1, .int x)]) hx hb dX3_rowOf_46 hl (by decide) rfl (fun ls hl => ?_)
    refine lv_iconst (v := 0) hx hb dX3_rowOf_48 (by decide) ?_
    refine lv_istore (lv' := [(6, .int 0), (4, .long 0), (3, .int (nI (sp_want (K + P) w T (sp_next (seed ^^^ (x * 40503)))))), (2, .int (sp_next (seed ^^^ (x * 40503)))), (0, .ref o), (1, .int x)]) hx hb dX3_rowOf_49 hl (by decide) rfl (fun ls hl => ?_)
    have hi_hk : 0 ≤ (sp_want (K + P) w T (sp_next (seed ^^^ (x * 40503)))) := (Nat.zero_le _)
    have hi_hrem : sp_rowl (K + P) ((sp_want (K + P) w T (sp_next (seed ^^^ (x * 40503)))) - 0) (sp_next (seed ^^^ (x * 40503))) 0 = sp_rowl (K + P) (sp_want (K + P) w T (sp_next (seed ^^^ (x * 40503)))) (sp_next (seed ^^^ (x * 40503))) 0 := rfl
    have hl9 : lv_has ls 7 [(6, .int (nI 0)), (2, .int (sp_next (seed ^^^ (x * 40503)))), (4, .long 0), (3, .int (nI (sp_want (K + P) w T (sp_next (seed ^^^ (x * 40503)))))), (0, .ref o), (1, .int x)] := lv_sub hl [0, 3, 1, 2, 4, 5] rfl
    refine r_loop3 (I := fun (k : Nat) (z : Int32) (y : Int64) (ls : Array Slot) => (k ≤ (sp_want (K + P) w T (sp_next (seed ^^^ (x * 40503))))) ∧ (sp_rowl (K + P) ((sp_want (K + P) w T (sp_next (seed ^^^ (x * 40503)))) - k) z y = sp_rowl (K + P) (sp_want (K + P) w T (sp_next (seed ^^^ (x * 40503)))) (sp_next (seed ^^^ (x * 40503))) 0) ∧ lv_has ls 7 [(6, .int (nI k)), (2, .int z), (4, .long y), (3, .int (nI (sp_want (K + P) w T (sp_next (seed ^^^ (x * 40503)))))), (0, .ref o), (1, .int x)]) (μ := fun k z y => (sp_want (K + P) w T (sp_next (seed ^^^ (x * 40503)))) - k) ?_ 0 (sp_next (seed ^^^ (x * 40503))) 0 ⟨hi_hk, hi_hrem, hl9⟩
    intro k z y ls hI9 ih_L0
    obtain ⟨hk, hrem, hl⟩ := hI9
    refine lv_iload hx hb dX3_rowOf_51 (lv_at hl 0 rfl) ?_
    refine lv_iload_n hx hb dX3_rowOf_53 rfl (lv_at hl 3 rfl) ?_
    have hw9 : (sp_want (K + P) w T (sp_next (seed ^^^ (x * 40503)))) ≤ 40 := sp_want_le (by omega)
    refine lv_icmp_ge (tgt := 89) hx hb dX3_rowOf_54 (by decide) (fun c_6 => ?_) (fun c_6 => ?_)
    · have c_6 : (nI (sp_want (K + P) w T (sp_next (seed ^^^ (x * 40503))))) ≤ (nI k) := c_6
      have hk9 : (sp_want (K + P) w T (sp_next (seed ^^^ (x * 40503)))) ≤ k := (ku_le (a := (sp_want (K + P) w T (sp_next (seed ^^^ (x * 40503))))) (b := k) (by omega) (by omega)).mp c_6
      refine lv_lload hx hb dX3_rowOf_89 (lv_at hl 2 rfl) ?_
      exact W.lret (v := y) hx hb hr (fun t9 ht9 hW9 => ⟨y, rfl, (by unfold sp_row; rw [if_pos c_2, ← hrem, show (sp_want (K + P) w T (sp_next (seed ^^^ (x * 40503)))) - k = 0 from (by omega)]; rfl), ht9⟩) (fun _ h => absurd h List.not_mem_nil) dX3_rowOf_91
    · have c_6 : ¬ ((nI (sp_want (K + P) w T (sp_next (seed ^^^ (x * 40503))))) ≤ (nI k)) := c_6
      have hk9 : k < (sp_want (K + P) w T (sp_next (seed ^^^ (x * 40503)))) := (ku_nle (a := (sp_want (K + P) w T (sp_next (seed ^^^ (x * 40503))))) (b := k) (by omega) (by omega)).mp c_6
      refine lv_iload_n hx hb dX3_rowOf_57 rfl (lv_at hl 1 rfl) ?_
      have hPc := hP.sub (ws' := []) [] rfl
      refine kq_csi (va_runSN (As := [.int z]) (rest := []) ⟨hx, hb, hml, hown, hts⟩ (c_FountainRows_nextState l dC dI cA z) ⟨va_cnB 1 hts (kg_I tb_64) rfl rfl rfl (hN.2 (RX3, 56, yX5_nextState, "FountainRows") (List.mem_of_getElem? (i := 1) rfl)) (hts _ tb_54) (by decide +kernel) ⟨Nat.le_of_ble_eq_true rfl, Nat.le_of_ble_eq_true rfl⟩, hts _ tb_65, trivial⟩ (kps_ro hK hN hPc) rfl rfl hl.1 rfl (lv_room (Nat.le_of_ble_eq_true rfl)) dX3_rowOf_58 ⟨Nat.le_of_ble_eq_true rfl, Nat.le_of_ble_eq_true rfl⟩) (fun r_7 hr_7 => ?_)
      subst hr_7
      refine lv_istore_n (lv' := [(2, .int (sp_next z)), (6, .int (nI k)), (4, .long y), (3, .int (nI (sp_want (K + P) w T (sp_next (seed ^^^ (x * 40503)))))), (0, .ref o), (1, .int x)]) hx hb dX3_rowOf_61 rfl hl (by decide) rfl (fun ls hl => ?_)
      refine lv_lload hx hb dX3_rowOf_62 (lv_at hl 2 rfl) ?_
      refine lv_lconst (v := 1) hx hb dX3_rowOf_64 (by decide) ?_
      refine lv_aload_n hx hb dX3_rowOf_65 rfl (lv_at hl 4 rfl) ?_
      refine lv_lload hx hb dX3_rowOf_66 (lv_at hl 2 rfl) ?_
      refine lv_iload_n hx hb dX3_rowOf_68 rfl (lv_at hl 0 rfl) ?_
      refine lv_aload_n hx hb dX3_rowOf_69 rfl (lv_at hl 4 rfl) ?_
      refine va_get (D := (dC, dI)) (ci := 3) (v := .int (nI (K + P))) (C := RX3) (T := TX3) (N := 9) hx hb hts inX3 hown hK hP 0 rfl rfl 2 (by decide) hk_3 (fun _ h9 => h9) rfl dX3_rowOf_70 ?_
      have hPc := hP.sub (ws' := []) [] rfl
      refine kq_csi (va_runSN (As := [.int (sp_next z), .int (nI (K + P))]) (rest := [.long y, .ref o, .long 1, .long y]) ⟨hx, hb, hml, hown, hts⟩ (c_FountainRows_drawnModulo l dC dI cA (sp_next z) (nI (K + P))) ⟨va_cnB 2 hts (kg_I tb_67) rfl rfl rfl (hN.2 (RX3, 85, yX5_drawnModulo, "FountainRows") (List.mem_of_getElem? (i := 6) rfl)) (hts _ tb_54) (by decide +kernel) ⟨Nat.le_of_ble_eq_true rfl, Nat.le_of_ble_eq_true rfl⟩, hts _ tb_68, trivial⟩ (kps_ro hK hN hPc) rfl rfl hl.1 rfl (lv_room (Nat.le_of_ble_eq_true rfl)) dX3_rowOf_73 ⟨Nat.le_of_ble_eq_true rfl, Nat.le_of_ble_eq_true rfl⟩) (fun r_8 hr_8 => ?_)
      subst hr_8
      refine kt_i (y := nI (sp_dn (sp_next z) % (K + P))) (sp_mod_nI _ (by omega) (by omega)) ?_
      have hPc := hP.sub (ws' := [(o, .inr (3, [.int (nI K), .int (nI P), .int (nI (K + P)), .int (nI S), .int seed, .ref wa, .int T, .ref ua, .ref sa]))]) [0] rfl
      refine kq_csi (va_runV (As := [.long y, .int (nI (sp_dn (sp_next z) % (K + P)))]) (rest := [.long 1, .long y]) ⟨hx, hb, hml, hown, hts⟩ (c_Source_firstOutside l dC dI cA o wa ua sa K P S seed T y (sp_dn (sp_next z) % (K + P)) (by first | assumption | omega) (by first | assumption | omega) (Nat.mod_lt _ (by omega))) (cwV 2 hts (kg_V tb_74 tb_75 tb_76 tb_45 tb_73) rfl rfl rfl (by decide +kernel) ⟨Nat.le_of_ble_eq_true rfl, Nat.le_of_ble_eq_true rfl⟩) (kpv_ro hK hN hPc (ci := 3) (q0 := 0) rfl rfl rfl) rfl rfl hl.1 rfl (lv_room (Nat.le_of_ble_eq_true rfl)) dX3_rowOf_76 ⟨Nat.le_of_ble_eq_true rfl, Nat.le_of_ble_eq_true rfl⟩) (fun r_9 hr_9 => ?_)
      subst hr_9
      refine lv_lshl (v := jv_lshl 1 (nI (sp_fo (K + P) y (K + P) (sp_dn (sp_next z) % (K + P))))) hx hb dX3_rowOf_79 rfl ?_
      refine lv_lor hx hb dX3_rowOf_80 ?_
      refine lv_lstore (lv' := [(4, .long (y ||| (jv_lshl 1 (nI (sp_fo (K + P) y (K + P) (sp_dn (sp_next z) % (K + P))))))), (2, .int (sp_next z)), (6, .int (nI k)), (3, .int (nI (sp_want (K + P) w T (sp_next (seed ^^^ (x * 40503)))))), (0, .ref o), (1, .int x)]) hx hb dX3_rowOf_81 hl (by decide) rfl (fun ls hl => ?_)
      refine lv_iinc (v := nI (k + 1)) (lv' := [(6, .int (nI (k + 1))), (4, .long (y ||| (jv_lshl 1 (nI (sp_fo (K + P) y (K + P) (sp_dn (sp_next z) % (K + P))))))), (2, .int (sp_next z)), (3, .int (nI (sp_want (K + P) w T (sp_next (seed ^^^ (x * 40503)))))), (0, .ref o), (1, .int x)]) hx hb dX3_rowOf_83 hl (k := 2) rfl (nI_succ _).symm (by decide) rfl (fun ls hl => ?_)
      refine lv_goto (tgt := 51) hx hb dX3_rowOf_86 (by decide) ?_
      have hi_hk : (k + 1) ≤ (sp_want (K + P) w T (sp_next (seed ^^^ (x * 40503)))) := (by omega)
      have hi_hrem : sp_rowl (K + P) ((sp_want (K + P) w T (sp_next (seed ^^^ (x * 40503)))) - (k + 1)) (sp_next z) (y ||| (jv_lshl 1 (nI (sp_fo (K + P) y (K + P) (sp_dn (sp_next z) % (K + P)))))) = sp_rowl (K + P) (sp_want (K + P) w T (sp_next (seed ^^^ (x * 40503)))) (sp_next (seed ^^^ (x * 40503))) 0 := (by rw [← hrem, show (sp_want (K + P) w T (sp_next (seed ^^^ (x * 40503)))) - k = ((sp_want (K + P) w T (sp_next (seed ^^^ (x * 40503)))) - (k + 1)) + 1 from (by omega)]; rfl)
      have hl9 : lv_has ls 7 [(6, .int (nI (k + 1))), (2, .int (sp_next z)), (4, .long (y ||| (jv_lshl 1 (nI (sp_fo (K + P) y (K + P) (sp_dn (sp_next z) % (K + P))))))), (3, .int (nI (sp_want (K + P) w T (sp_next (seed ^^^ (x * 40503)))))), (0, .ref o), (1, .int x)] := lv_sub hl [0, 2, 1, 3, 4, 5] rfl
      exact ih_L0 (k + 1) (sp_next z) (y ||| (jv_lshl 1 (nI (sp_fo (K + P) y (K + P) (sp_dn (sp_next z) % (K + P)))))) ls ⟨hi_hk, hi_hrem, hl9⟩ (by show (sp_want (K + P) w T (sp_next (seed ^^^ (x * 40503)))) - (k + 1) < (sp_want (K + P) w T (sp_next (seed ^^^ (x * 40503)))) - k; omega)
  · have c_2 : ¬ ((sp_has K x) = 0) := c_2
    refine lv_lconst (v := 1) hx hb dX3_rowOf_8 (by decide) ?_
    refine lv_iload_n hx hb dX3_rowOf_9 rfl (lv_at hl 1 rfl) ?_
    refine lv_lshl (v := jv_lshl 1 x) hx hb dX3_rowOf_10 rfl ?_
    exact W.lret (v := jv_lshl 1 x) hx hb hr (fun t9 ht9 hW9 => ⟨jv_lshl 1 x, rfl, (by unfold sp_row; rw [if_neg c_2]), ht9⟩) (fun _ h => absurd h List.not_mem_nil) dX3_rowOf_11
set_option maxHeartbeats 4000000 in
set_option maxRecDepth 100000 in
theorem c_Source_outputOf (l : Launch) (dC : Nat → ClassId) (dI : Nat → Nat → Nat) (cA : Nat → ClassId) (o : Nat) (wa : Nat) (ua : Nat) (sa : Nat) (K : Nat) (P : Nat) (S : Nat) (seed : Int32) (T : Int32) (w : Nat → Int32) (su : Nat → Int64) (sy : Nat → Int64) (x : Int32) (hK32 : K ≤ 32) (hP8 : P ≤ 8) (hK1 : 1 ≤ K) : Met l yX3_outputOf (kw_X3_outputOf) ({ frames := 3, cells := 0, slots := 0, locals := 73 }) (va_Pc [.ref o, .int x] (fun U => kRO dC dI cA [(o, .inr (3, [.int (nI K), .int (nI P), .int (nI (K + P)), .int (nI S), .int seed, .ref wa, .int T, .ref ua, .ref sa])), (wa, .inl (cA 0, 12, .inl w)), (ua, .inl (cA 1, 8, .inr (.inl su))), (sa, .inl (cA 1, 32, .inr (.inl sy)))] U)) (vp_Sl (fun r => r = sp_outl K P su sy (sp_row K P seed w T x) (K + P))) 0 0 (fun _ => False) := by
  refine Met.ofW (cc := cX3_outputOf) (maxL := 7) (ret := (some .long)) (by decide) rfl ?_
  intro p e s m args below meth c s₁ B hml hv
  obtain ⟨rfl, hP, hK, hN⟩ := hv
  have hx := B.exec
  have hb := B.bytes
  have hr := B.returns
  have hts0 := atoms_spec (ws := (kw_X3_outputOf)) B.pre
  have hts : ∀ w ∈ TB, w.before _ s = true := fun w h => hts0 w (List.mem_cons_of_mem _ h)
  have hown : s.vm.findClass RX3 = some m.cls := findClass_of_methodNamed B.named
  have hlocks := B.notSynchronized
  have hk_0 := hts (.fieldLink RX3 18 "FountainRows$Source" "partCount" "I") tb_40
  have hl := lv_entry ([.ref o, .int x]) (n := 7) (Nat.le_of_ble_eq_true rfl)
  rw [lg_entry_eq]
  generalize (lg_sl ([.ref o, .int x]) ++ List.replicate (7 - (lg_sl ([.ref o, .int x])).length) Slot.unset).toArray = ls at hl ⊢
  have hl : lv_has ls 7 [(0, .ref o), (1, .int x)] := hl
  refine lv_aload_n hx hb dX3_outputOf_0 rfl (lv_at hl 0 rfl) ?_
  refine lv_iload_n hx hb dX3_outputOf_1 rfl (lv_at hl 1 rfl) ?_
  have hPc := hP.sub (ws' := [(o, .inr (3, [.int (nI K), .int (nI P), .int (nI (K + P)), .int (nI S), .int seed, .ref wa, .int T, .ref ua, .ref sa])), (wa, .inl (cA 0, 12, .inl w))]) [0, 1] rfl
  refine kq_csl (va_runV (As := [.int x]) (rest := []) ⟨hx, hb, hml, hown, hts⟩ (c_Source_rowOf l dC dI cA o wa ua sa K P S seed T w x (by first | assumption | omega) (by first | assumption | omega) (by first | assumption | omega)) (cwV 1 hts (kg_V tb_84 tb_85 tb_86 tb_45 tb_83) rfl rfl rfl (by decide +kernel) ⟨Nat.le_of_ble_eq_true rfl, Nat.le_of_ble_eq_true rfl⟩) (kpv_ro hK hN hPc (ci := 3) (q0 := 0) rfl rfl rfl) rfl rfl hl.1 rfl (lv_room (Nat.le_of_ble_eq_true rfl)) dX3_outputOf_2 ⟨Nat.le_of_ble_eq_true rfl, Nat.le_of_ble_eq_true rfl⟩) (fun r_1 hr_1 => ?_)
  subst hr_1
  refine lv_lstore_n (lv' := [(2, .long (sp_row K P seed w T x)), (0, .ref o), (1, .int x)]) hx hb dX3_outputOf_5 rfl hl (by decide) rfl (fun ls hl => ?_)
  refine lv_lconst (v := 0) hx hb dX3_outputOf_6 (by decide) ?_
  refine lv_lstore (lv' := [(4, .long 0), (2, .long (sp_row K P seed w T x)), (0, .ref o), (1, .int x)]) hx hb dX3_outputOf_7 hl (by decide) rfl (fun ls hl => ?_)
  refine lv_iconst (v := 0) hx hb dX3_outputOf_9 (by decide) ?_
  refine lv_istore (lv' := [(6, .int 0), (4, .long 0), (2, .long (sp_row K P seed w T x)), (0, .ref o), (1, .int x)]) hx hb dX3_outputOf_10 hl (by decide) rfl (fun ls hl => ?_)
  have hi_hk : 0 ≤ K + P := (by omega)
  have hi_hy9 : 0 = sp_outl K P su sy (sp_row K P seed w T x) 0 := rfl
  have hl9 : lv_has ls 7 [(6, .int (nI 0)), (4, .long 0), (2, .long (sp_row K P seed w T x)), (0, .ref o), (1, .int x)] := lv_sub hl [0, 1, 2, 3, 4] rfl
  refine r_loop2 (I := fun (k : Nat) (y : Int64) (ls : Array Slot) => (k ≤ K + P) ∧ (y = sp_outl K P su sy (sp_row K P seed w T x) k) ∧ lv_has ls 7 [(6, .int (nI k)), (4, .long y), (2, .long (sp_row K P seed w T x)), (0, .ref o), (1, .int x)]) (μ := fun k y => K + P - k) ?_ 0 0 ⟨hi_hk, hi_hy9, hl9⟩
  intro k y ls hI9 ih_L0
  obtain ⟨hk, hy9, hl⟩ := hI9
  refine lv_iload hx hb dX3_outputOf_12 (lv_at hl 0 rfl) ?_
  refine lv_aload_n hx hb dX3_outputOf_14 rfl (lv_at hl 3 rfl) ?_
  refine va_get (D := (dC, dI)) (ci := 3) (v := .int (nI (K + P))) (C := RX3) (T := TX3) (N := 9) hx hb hts inX3 hown hK hP 0 rfl rfl 2 (by decide) hk_0 (fun _ h9 => h9) rfl dX3_outputOf_15 ?_
  refine lv_icmp_ge (tgt := 47) hx hb dX3_outputOf_18 (by decide) (fun c_2 => ?_) (fun c_2 => ?_)
  · have c_2 : (nI (K + P)) ≤ (nI k) := c_2
    have hk9 : (K + P) ≤ k := (ku_le (a := (K + P)) (b := k) (by omega) (by omega)).mp c_2
    refine lv_lload hx hb dX3_outputOf_47 (lv_at hl 1 rfl) ?_
    exact W.lret (v := y) hx hb hr (fun t9 ht9 hW9 => ⟨y, rfl, (by have e : k = K + P := (by omega); rw [hy9, e]), ht9⟩) (fun _ h => absurd h List.not_mem_nil) dX3_outputOf_49
  · have c_2 : ¬ ((nI (K + P)) ≤ (nI k)) := c_2
    have hk9 : k < (K + P) := (ku_nle (a := (K + P)) (b := k) (by omega) (by omega)).mp c_2
    refine lv_lload_n hx hb dX3_outputOf_21 rfl (lv_at hl 2 rfl) ?_
    refine lv_iload hx hb dX3_outputOf_22 (lv_at hl 0 rfl) ?_
    have hPc := hP.sub (ws' := []) [] rfl
    refine kq_csi (va_runSN (As := [.long (sp_row K P seed w T x), .int (nI k)]) (rest := []) ⟨hx, hb, hml, hown, hts⟩ (c_FountainRows_hasBit l dC dI cA (sp_row K P seed w T x) (nI k)) ⟨va_cnB 2 hts (kg_I tb_53) rfl rfl rfl (hN.2 (RX3, 60, yX5_hasBit, "FountainRows") (List.mem_of_getElem? (i := 2) rfl)) (hts _ tb_54) (by decide +kernel) ⟨Nat.le_of_ble_eq_true rfl, Nat.le_of_ble_eq_true rfl⟩, hts _ tb_55, trivial⟩ (kps_ro hK hN hPc) rfl rfl hl.1 rfl (lv_room (Nat.le_of_ble_eq_true rfl)) dX3_outputOf_24 ⟨Nat.le_of_ble_eq_true rfl, Nat.le_of_ble_eq_true rfl⟩) (fun r_3 hr_3 => ?_)
    subst hr_3
    refine lv_if_eq (tgt := 41) hx hb dX3_outputOf_27 (by decide) (fun c_4 => ?_) (fun c_4 => ?_)
    · have c_4 : (sp_bit (sp_row K P seed w T x) (nI k)) = 0 := c_4
      refine lv_iinc (v := nI (k + 1)) (lv' := [(6, .int (nI (k + 1))), (4, .long y), (2, .long (sp_row K P seed w T x)), (0, .ref o), (1, .int x)]) hx hb dX3_outputOf_41 hl (k := 0) rfl (nI_succ _).symm (by decide) rfl (fun ls hl => ?_)
      refine lv_goto (tgt := 12) hx hb dX3_outputOf_44 (by decide) ?_
      have hi_hk : (k + 1) ≤ K + P := (by omega)
      have hi_hy9 : y = sp_outl K P su sy (sp_row K P seed w T x) (k + 1) := (by subst hy9; exact (if_pos c_4).symm)
      have hl9 : lv_has ls 7 [(6, .int (nI (k + 1))), (4, .long y), (2, .long (sp_row K P seed w T x)), (0, .ref o), (1, .int x)] := lv_sub hl [0, 1, 2, 3, 4] rfl
      exact ih_L0 (k + 1) y ls ⟨hi_hk, hi_hy9, hl9⟩ (by show K + P - (k + 1) < K + P - k; omega)
    · have c_4 : ¬ ((sp_bit (sp_row K P seed w T x) (nI k)) = 0) := c_4
      refine lv_lload hx hb dX3_outputOf_30 (lv_at hl 1 rfl) ?_
      refine lv_aload_n hx hb dX3_outputOf_32 rfl (lv_at hl 3 rfl) ?_
      refine lv_iload hx hb dX3_outputOf_33 (lv_at hl 0 rfl) ?_
      have hPc := hP.sub (ws' := [(o, .inr (3, [.int (nI K), .int (nI P), .int (nI (K + P)), .int (nI S), .int seed, .ref wa, .int T, .ref ua, .ref sa])), (ua, .inl (cA 1, 8, .inr (.inl su))), (sa, .inl (cA 1, 32, .inr (.inl sy)))]) [0, 2, 3] rfl
      refine kq_csl (va_runV (As := [.int (nI k)]) (rest := [.long y]) ⟨hx, hb, hml, hown, hts⟩ (c_Source_partValue l dC dI cA o wa ua sa K P S seed T su sy (nI k) (by first | assumption | omega) (by first | assumption | omega)) (cwV 1 hts (kg_V tb_88 tb_89 tb_90 tb_45 tb_87) rfl rfl rfl (by decide +kernel) ⟨Nat.le_of_ble_eq_true rfl, Nat.le_of_ble_eq_true rfl⟩) (kpv_ro hK hN hPc (ci := 3) (q0 := 0) rfl rfl rfl) rfl rfl hl.1 rfl (lv_room (Nat.le_of_ble_eq_true rfl)) dX3_outputOf_35 ⟨Nat.le_of_ble_eq_true rfl, Nat.le_of_ble_eq_true rfl⟩) (fun r_5 hr_5 => ?_)
      subst hr_5
      refine lv_lxor hx hb dX3_outputOf_38 ?_
      refine lv_lstore (lv' := [(4, .long (y ^^^ (sp_part K P su sy (nI k)))), (6, .int (nI k)), (2, .long (sp_row K P seed w T x)), (0, .ref o), (1, .int x)]) hx hb dX3_outputOf_39 hl (by decide) rfl (fun ls hl => ?_)
      refine lv_iinc (v := nI (k + 1)) (lv' := [(6, .int (nI (k + 1))), (4, .long (y ^^^ (sp_part K P su sy (nI k)))), (2, .long (sp_row K P seed w T x)), (0, .ref o), (1, .int x)]) hx hb dX3_outputOf_41 hl (k := 1) rfl (nI_succ _).symm (by decide) rfl (fun ls hl => ?_)
      refine lv_goto (tgt := 12) hx hb dX3_outputOf_44 (by decide) ?_
      have hi_hk : (k + 1) ≤ K + P := (by omega)
      have hi_hy9 : (y ^^^ (sp_part K P su sy (nI k))) = sp_outl K P su sy (sp_row K P seed w T x) (k + 1) := (by subst hy9; exact (if_neg c_4).symm)
      have hl9 : lv_has ls 7 [(6, .int (nI (k + 1))), (4, .long (y ^^^ (sp_part K P su sy (nI k)))), (2, .long (sp_row K P seed w T x)), (0, .ref o), (1, .int x)] := lv_sub hl [0, 1, 2, 3, 4] rfl
      exact ih_L0 (k + 1) (y ^^^ (sp_part K P su sy (nI k))) ls ⟨hi_hk, hi_hy9, hl9⟩ (by show K + P - (k + 1) < K + P - k; omega)
