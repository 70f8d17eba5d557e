set_option maxHeartbeats 4000000 in
set_option maxRecDepth 100000 in
theorem c_Peeling_init (l : Launch) (dC : Nat → ClassId) (dI : Nat → Nat → Nat) (cA : Nat → ClassId) (sz : Nat) (o : Nat)  : Met l yX1_init (kw_X1_init) ({ frames := 1, cells := 0, slots := 0, locals := 12 }) (va_Pc [.ref o] (fun U => kRW dC dI cA [(o, .inr (1, [.long 0, .long 0, .long 0]))] sz U)) (va_Qv (fun (u : Unit) => True) (fun (u : Unit) t => kB dC dI (va_A [(o, .inr (1, [.long 0, .long 0, .long 0]))] sz) [(o, .inr (1, [.long 0, .long 0, .long 0]))] t) (va_A [(o, .inr (1, [.long 0, .long 0, .long 0]))] sz)) 0 0 (va_A [(o, .inr (1, [.long 0, .long 0, .long 0]))] sz) := by
  refine Met.ofW (cc := cX1_init) (maxL := 1) (ret := none) (by decide) rfl ?_
  intro p e s m args below meth c s₁ B hml hv
  obtain ⟨rfl, hsz, hP, hK, hN, hD0⟩ := hv
  have hx := B.exec
  have hb := B.bytes
  have hr := B.returns
  have hts0 := atoms_spec (ws := (kw_X1_init)) B.pre
  have hts : ∀ w ∈ TB, w.before _ s = true := fun w h => hts0 w (List.mem_cons_of_mem _ h)
  have hown : s.vm.findClass RX1 = some m.cls := findClass_of_methodNamed B.named
  have hlocks := B.notSynchronized
  have hin : meth.name = "<init>" := (name_of_methodNamed B.named B.method).1
  subst hsz
  have hD := hD0.self (sz := s.heap.size)
  generalize hAe : va_A [(o, .inr (1, [.long 0, .long 0, .long 0]))] s.heap.size = A at hD ⊢
  have hA : ∀ q : Nat, s.heap.size ≤ q → A q := fun q h => by rw [← hAe]; exact Or.inr h
  have hS : va_S A s.heap s.heap [] := va_S.rf
  have hk_0 := hts (.methodLink RX1 1 objectInit) tb_202
  have hk_1 := hts (.instanceMethod objectInit) tb_31
  have hk_2 := hts (.code objectInit ⟨#[0xb1]⟩ 1 none) tb_32
  have hl := lv_entry ([.ref o]) (n := 1) (Nat.le_of_ble_eq_true rfl)
  rw [lg_entry_eq]
  generalize (lg_sl ([.ref o]) ++ List.replicate (1 - (lg_sl ([.ref o])).length) Slot.unset).toArray = ls at hl ⊢
  have hl : lv_has ls 1 [(0, .ref o)] := hl
  refine lv_aload_n hx hb dX1_init_0 rfl (lv_at hl 0 rfl) ?_
  refine W.objInit hx hb hown hk_0 hk_1 hk_2 rfl (by rw [hml]; exact hl.1) rfl dX1_init_1 (Nat.le_of_ble_eq_true rfl) (Nat.le_of_ble_eq_true rfl) ?_
  refine W.eq (g2 := F0 m 4 ls []) rfl ?_
  have hP9 := hP.sub (ws' := [(o, .inr (1, [.long 0, .long 0, .long 0]))]) [0] rfl
  have hD9 := hD.sub (ws' := [(o, .inr (1, [.long 0, .long 0, .long 0]))]) [0] (by decide) rfl
  exact W.vret hx hb hr (fun t9 ht9 hW9 => ⟨⟨(), rfl, trivial, by rw [ht9]; exact hP9, hD9⟩, hS.F ht9⟩) hS.2.2 dX1_init_4
set_option maxHeartbeats 4000000 in
set_option maxRecDepth 100000 in
theorem c_Span_init (l : Launch) (dC : Nat → ClassId) (dI : Nat → Nat → Nat) (cA : Nat → ClassId) (sz : Nat) (o : Nat)  : Met l yX4_init (kw_X4_init) ({ frames := 1, cells := 2, slots := 80, locals := 12 }) (va_Pc [.ref o] (fun U => kRW dC dI cA [(o, .inr (4, [.null, .null, .int 0, .long 0, .long 0]))] sz U)) (va_Qv (fun (u : Nat × Nat) => True) (fun (u : Nat × Nat) t => kB dC dI (va_A [(o, .inr (4, [.null, .null, .int 0, .long 0, .long 0]))] sz) [(o, .inr (4, [.ref u.1, .ref u.2, .int (nI 0), .long 0, .long 0])), (u.1, .inl (cA 1, 40, .inr (.inl (fun _ => 0)))), (u.2, .inl (cA 1, 40, .inr (.inl (fun _ => 0))))] t) (va_A [(o, .inr (4, [.null, .null, .int 0, .long 0, .long 0]))] sz)) 2 80 (va_A [(o, .inr (4, [.null, .null, .int 0, .long 0, .long 0]))] sz) := by
  refine Met.ofW (cc := cX4_init) (maxL := 1) (ret := none) (by decide) rfl ?_
  intro p e s m args below meth c s₁ B hml hv
  obtain ⟨rfl, hsz, hP, hK, hN, hD0⟩ := hv
  have hx := B.exec
  have hb := B.bytes
  have hr := B.returns
  have hts0 := atoms_spec (ws := (kw_X4_init)) B.pre
  have hts : ∀ w ∈ TB, w.before _ s = true := fun w h => hts0 w (List.mem_cons_of_mem _ h)
  have hown : s.vm.findClass RX4 = some m.cls := findClass_of_methodNamed B.named
  have hlocks := B.notSynchronized
  have hin : meth.name = "<init>" := (name_of_methodNamed B.named B.method).1
  subst hsz
  have hD := hD0.self (sz := s.heap.size)
  generalize hAe : va_A [(o, .inr (4, [.null, .null, .int 0, .long 0, .long 0]))] s.heap.size = A at hD ⊢
  have hA : ∀ q : Nat, s.heap.size ≤ q → A q := fun q h => by rw [← hAe]; exact Or.inr h
  have hS : va_S A s.heap s.heap [] := va_S.rf
  have hk_0 := hts (.methodLink RX4 3 objectInit) tb_203
  have hk_1 := hts (.instanceMethod objectInit) tb_31
  have hk_2 := hts (.code objectInit ⟨#[0xb1]⟩ 1 none) tb_32
  have hk_3 := hts (.arrayClass .long) tb_204
  have hk_4 := hts (.fieldLink RX4 9 "FountainRows$Span" "rows" "[J") tb_92
  have hk_5 := hts (.fieldLink RX4 15 "FountainRows$Span" "values" "[J") tb_93
  have hl := lv_entry ([.ref o]) (n := 1) (Nat.le_of_ble_eq_true rfl)
  rw [lg_entry_eq]
  generalize (lg_sl ([.ref o]) ++ List.replicate (1 - (lg_sl ([.ref o])).length) Slot.unset).toArray = ls at hl ⊢
  have hl : lv_has ls 1 [(0, .ref o)] := hl
  refine lv_aload_n hx hb dX4_init_0 rfl (lv_at hl 0 rfl) ?_
  refine W.objInit hx hb hown hk_0 hk_1 hk_2 rfl (by rw [hml]; exact hl.1) rfl dX4_init_1 (Nat.le_of_ble_eq_true rfl) (Nat.le_of_ble_eq_true rfl) ?_
  refine W.eq (g2 := F0 m 4 ls []) rfl ?_
  refine lv_aload_n hx hb dX4_init_4 rfl (lv_at hl 0 rfl) ?_
  refine lv_bipush (v := 40) hx hb dX4_init_5 (by decide) ?_
  refine kn_newl (N' := 40) hx hb hk_3 hK hP hD hS hA (by decide) (by decide) (by decide) (Nat.le_of_ble_eq_true rfl) (Nat.le_of_ble_eq_true rfl) dX4_init_7 (fun q_1 H hP hD hS => ?_)
  have hP : va_P (dC, dI) vwCl [(o, .inr (4, [.null, .null, .int 0, .long 0, .long 0])), (q_1, .inl (cA 1, 40, .inr (.inl (fun _ => 0))))] H := hP
  have hD : va_D A [(o, .inr (4, [.null, .null, .int 0, .long 0, .long 0])), (q_1, .inl (cA 1, 40, .inr (.inl (fun _ => 0))))] := hD
  refine va_putF (D := (dC, dI)) (ci := 4) (v := .ref q_1) (ty := .array .long) (C := RX4) (T := TX4) (N := 5) hx hb hts inX4 tyX4 tyX4_ok nmX4 hown hK hP hD hS 0 rfl rfl 0 (by decide) hk_4 (fun _ h9 => h9) rfl hin rfl (by decide +kernel) rfl rfl (Nat.le_of_ble_eq_true rfl) dX4_init_9 (fun H locs hP hD hS => ?_)
  have hP : va_P (dC, dI) vwCl [(o, .inr (4, [.ref q_1, .null, .int 0, .long 0, .long 0])), (q_1, .inl (cA 1, 40, .inr (.inl (fun _ => 0))))] H := hP
  have hD : va_D A [(o, .inr (4, [.ref q_1, .null, .int 0, .long 0, .long 0])), (q_1, .inl (cA 1, 40, .inr (.inl (fun _ => 0))))] := hD
  refine lv_aload_n hx hb dX4_init_12 rfl (lv_at hl 0 rfl) ?_
  refine lv_bipush (v := 40) hx hb dX4_init_13 (by decide) ?_
  refine kn_newl (N' := 40) hx hb hk_3 hK hP hD hS hA (by decide) (by decide) (by decide) (Nat.le_of_ble_eq_true rfl) (Nat.le_of_ble_eq_true rfl) dX4_init_15 (fun q_2 H hP hD hS => ?_)
  have hP : va_P (dC, dI) vwCl [(o, .inr (4, [.ref q_1, .null, .int 0, .long 0, .long 0])), (q_1, .inl (cA 1, 40, .inr (.inl (fun _ => 0)))), (q_2, .inl (cA 1, 40, .inr (.inl (fun _ => 0))))] H := hP
  have hD : va_D A [(o, .inr (4, [.ref q_1, .null, .int 0, .long 0, .long 0])), (q_1, .inl (cA 1, 40, .inr (.inl (fun _ => 0)))), (q_2, .inl (cA 1, 40, .inr (.inl (fun _ => 0))))] := hD
  refine va_putF (D := (dC, dI)) (ci := 4) (v := .ref q_2) (ty := .array .long) (C := RX4) (T := TX4) (N := 5) hx hb hts inX4 tyX4 tyX4_ok nmX4 hown hK hP hD hS 0 rfl rfl 1 (by decide) hk_5 (fun _ h9 => h9) rfl hin rfl (by decide +kernel) rfl rfl (Nat.le_of_ble_eq_true rfl) dX4_init_17 (fun H locs hP hD hS => ?_)
  have hP : va_P (dC, dI) vwCl [(o, .inr (4, [.ref q_1, .ref q_2, .int 0, .long 0, .long 0])), (q_1, .inl (cA 1, 40, .inr (.inl (fun _ => 0)))), (q_2, .inl (cA 1, 40, .inr (.inl (fun _ => 0))))] H := hP
  have hD : va_D A [(o, .inr (4, [.ref q_1, .ref q_2, .int 0, .long 0, .long 0])), (q_1, .inl (cA 1, 40, .inr (.inl (fun _ => 0)))), (q_2, .inl (cA 1, 40, .inr (.inl (fun _ => 0))))] := hD
  have hP9 := hP.sub (ws' := [(o, .inr (4, [.ref q_1, .ref q_2, .int 0, .long 0, .long 0])), (q_1, .inl (cA 1, 40, .inr (.inl (fun _ => 0)))), (q_2, .inl (cA 1, 40, .inr (.inl (fun _ => 0))))]) [0, 1, 2] rfl
  have hD9 := hD.sub (ws' := [(o, .inr (4, [.ref q_1, .ref q_2, .int 0, .long 0, .long 0])), (q_1, .inl (cA 1, 40, .inr (.inl (fun _ => 0)))), (q_2, .inl (cA 1, 40, .inr (.inl (fun _ => 0))))]) [0, 1, 2] (by decide) rfl
  have e9_0 : nI 0 = 0 := rfl
  have e9 : ([(o, .inr (4, [.ref q_1, .ref q_2, .int (nI 0), .long 0, .long 0])), (q_1, .inl (cA 1, 40, .inr (.inl (fun _ => 0)))), (q_2, .inl (cA 1, 40, .inr (.inl (fun _ => 0))))] : va_W) = [(o, .inr (4, [.ref q_1, .ref q_2, .int 0, .long 0, .long 0])), (q_1, .inl (cA 1, 40, .inr (.inl (fun _ => 0)))), (q_2, .inl (cA 1, 40, .inr (.inl (fun _ => 0))))] := by rw [e9_0]
  exact W.vret hx hb hr (fun t9 ht9 hW9 => ⟨⟨(q_1, q_2), rfl, trivial, by rw [ht9, e9]; exact hP9, by rw [e9]; exact hD9⟩, hS.F ht9⟩) hS.2.2 dX4_init_20
set_option maxHeartbeats 4000000 in
set_option maxRecDepth 100000 in
theorem c_Source_init (l : Launch) (dC : Nat → ClassId) (dI : Nat → Nat → Nat) (cA : Nat → ClassId) (sz : Nat) (o : Nat) (ya : Nat) (K : Nat) (P : Nat) (S : Nat) (seed : Int32) (w : Nat → Int32) (hK32 : K ≤ 32) (hP8 : P ≤ 8) : Met l yX3_init (kw_X3_init) ({ frames := 2, cells := 3, slots := 52, locals := 47 }) (va_Pc [.ref o, .int (nI K), .int (nI P), .int (nI S), .int seed, .ref ya] (fun U => kRW dC dI cA [(o, .inr (3, [.int 0, .int 0, .int 0, .int 0, .int 0, .null, .int 0, .null, .null])), (ya, .inl (cA 0, 12, .inl w))] sz U)) (va_Qv (fun (u : Nat × Nat × Nat) => True) (fun (u : Nat × Nat × Nat) t => kB dC dI (va_A [(o, .inr (3, [.int 0, .int 0, .int 0, .int 0, .int 0, .null, .int 0, .null, .null])), (ya, .inl (cA 0, 12, .inl w))] sz) [(o, .inr (3, [.int (nI K), .int (nI P), .int (nI (K + P)), .int (nI S), .int seed, .ref u.1, .int (bx_sum (va_cpy w (fun _ => 0) 0 0 12) 12), .ref u.2.1, .ref u.2.2])), (u.1, .inl (cA 0, 12, .inl (va_cpy w (fun _ => 0) 0 0 12))), (u.2.1, .inl (cA 1, 8, .inr (.inl (sp_sv K P seed P)))), (u.2.2, .inl (cA 1, 32, .inr (.inl (fun _ => 0)))), (ya, .inl (cA 0, 12, .inl w))] t) (va_A [(o, .inr (3, [.int 0, .int 0, .int 0, .int 0, .int 0, .null, .int 0, .null, .null])), (ya, .inl (cA 0, 12, .inl w))] sz)) 3 52 (va_A [(o, .inr (3, [.int 0, .int 0, .int 0, .int 0, .int 0, .null, .int 0, .null, .null])), (ya, .inl (cA 0, 12, .inl w))] sz) := by
  refine Met.ofW (cc := cX3_init) (maxL := 7) (ret := none) (by decide) rfl ?_
  intro p e s m args below meth c s₁ B hml hv
  obtain ⟨rfl, hsz, hP, hK, hN, hD0⟩ := hv
  have hx := B.exec
  have hb := B.bytes
  have hr := B.returns
  have hts0 := atoms_spec (ws := (kw_X3_init)) B.pre
  have hts : ∀ w ∈ TB, w.before _ s = true := fun w h => hts0 w (List.mem_cons_of_mem _ h)
  have hown : s.vm.findClass RX3 = some m.cls := findClass_of_methodNamed B.named
  have hlocks := B.notSynchronized
  have hin : meth.name = "<init>" := (name_of_methodNamed B.named B.method).1
  subst hsz
  have hD := hD0.self (sz := s.heap.size)
  generalize hAe : va_A [(o, .inr (3, [.int 0, .int 0, .int 0, .int 0, .int 0, .null, .int 0, .null, .null])), (ya, .inl (cA 0, 12, .inl w))] s.heap.size = A at hD ⊢
  have hA : ∀ q : Nat, s.heap.size ≤ q → A q := fun q h => by rw [← hAe]; exact Or.inr h
  have hS : va_S A s.heap s.heap [] := va_S.rf
  have hk_0 := hts (.methodLink RX3 3 objectInit) tb_210
  have hk_1 := hts (.instanceMethod objectInit) tb_31
  have hk_2 := hts (.code objectInit ⟨#[0xb1]⟩ 1 none) tb_32
  have hk_3 := hts (.fieldLink RX3 9 "FountainRows$Source" "symbolCount" "I") tb_38
  have hk_4 := hts (.fieldLink RX3 15 "FountainRows$Source" "sumCount" "I") tb_39
  have hk_5 := hts (.fieldLink RX3 18 "FountainRows$Source" "partCount" "I") tb_40
  have hk_6 := hts (.fieldLink RX3 21 "FountainRows$Source" "size" "I") tb_47
  have hk_7 := hts (.fieldLink RX3 24 "FountainRows$Source" "seed" "I") tb_77
  have hk_8 := hts (.arrayClass .int) tb_37
  have hk_9 := hts (.fieldLink RX3 27 "FountainRows$Source" "ownWeights" "[I") tb_66
  have hk_10 := hts (.methodLink RX3 31 arraycopyName) tb_211
  have hk_11 := hts (.native arraycopyName) tb_212
  have hk_12 := hts (.static arraycopyName) tb_213
  have hk_13 := hts (.initialized "java/lang/System") tb_214
  have hk_14 := hts (.fieldLink RX3 41 "FountainRows$Source" "totalWeight" "I") tb_79
  have hk_15 := hts (.arrayClass .long) tb_204
  have hk_16 := hts (.fieldLink RX3 44 "FountainRows$Source" "symbols" "[J") tb_46
  have hk_17 := hts (.fieldLink RX3 48 "FountainRows$Source" "sumSymbols" "[J") tb_52
  have hk_18 := hts (.constant RX3 51 40503) tb_78
  have hl := lv_entry ([.ref o, .int (nI K), .int (nI P), .int (nI S), .int seed, .ref ya]) (n := 7) (Nat.le_of_ble_eq_true rfl)
  rw [lg_entry_eq]
  generalize (lg_sl ([.ref o, .int (nI K), .int (nI P), .int (nI S), .int seed, .ref ya]) ++ List.replicate (7 - (lg_sl ([.ref o, .int (nI K), .int (nI P), .int (nI S), .int seed, .ref ya])).length) Slot.unset).toArray = ls at hl ⊢
  have hl : lv_has ls 7 [(0, .ref o), (1, .int (nI K)), (2, .int (nI P)), (3, .int (nI S)), (4, .int seed), (5, .ref ya)] := hl
  refine lv_aload_n hx hb dX3_init_0 rfl (lv_at hl 0 rfl) ?_
  refine W.objInit hx hb hown hk_0 hk_1 hk_2 rfl (by rw [hml]; exact hl.1) rfl dX3_init_1 (Nat.le_of_ble_eq_true rfl) (Nat.le_of_ble_eq_true rfl) ?_
  refine W.eq (g2 := F0 m 4 ls []) rfl ?_
  refine lv_aload_n hx hb dX3_init_4 rfl (lv_at hl 0 rfl) ?_
  refine lv_iload_n hx hb dX3_init_5 rfl (lv_at hl 1 rfl) ?_
  refine va_putF (D := (dC, dI)) (ci := 3) (v := .int (nI K)) (ty := .int) (C := RX3) (T := TX3) (N := 9) hx hb hts inX3 tyX3 tyX3_ok nmX3 hown hK hP hD hS 0 rfl rfl 0 (by decide) hk_3 (fun _ h9 => h9) rfl hin rfl (by decide +kernel) rfl rfl (Nat.le_of_ble_eq_true rfl) dX3_init_6 (fun H locs hP hD hS => ?_)
  have hP : va_P (dC, dI) vwCl [(o, .inr (3, [.int (nI K), .int 0, .int 0, .int 0, .int 0, .null, .int 0, .null, .null])), (ya, .inl (cA 0, 12, .inl w))] H := hP
  have hD : va_D A [(o, .inr (3, [.int (nI K), .int 0, .int 0, .int 0, .int 0, .null, .int 0, .null, .null])), (ya, .inl (cA 0, 12, .inl w))] := hD
  refine lv_aload_n hx hb dX3_init_9 rfl (lv_at hl 0 rfl) ?_
  refine lv_iload_n hx hb dX3_init_10 rfl (lv_at hl 2 rfl) ?_
  refine va_putF (D := (dC, dI)) (ci := 3) (v := .int (nI P)) (ty := .int) (C := RX3) (T := TX3) (N := 9) hx hb hts inX3 tyX3 tyX3_ok nmX3 hown hK hP hD hS 0 rfl rfl 1 (by decide) hk_4 (fun _ h9 => h9) rfl hin rfl (by decide +kernel) rfl rfl (Nat.le_of_ble_eq_true rfl) dX3_init_11 (fun H locs hP hD hS => ?_)
  have hP : va_P (dC, dI) vwCl [(o, .inr (3, [.int (nI K), .int (nI P), .int 0, .int 0, .int 0, .null, .int 0, .null, .null])), (ya, .inl (cA 0, 12, .inl w))] H := hP
  have hD : va_D A [(o, .inr (3, [.int (nI K), .int (nI P), .int 0, .int 0, .int 0, .null, .int 0, .null, .null])), (ya, .inl (cA 0, 12, .inl w))] := hD
  refine lv_aload_n hx hb dX3_init_14 rfl (lv_at hl 0 rfl) ?_
  refine lv_iload_n hx hb dX3_init_15 rfl (lv_at hl 1 rfl) ?_
  refine lv_iload_n hx hb dX3_init_16 rfl (lv_at hl 2 rfl) ?_
  refine lv_iadd hx hb dX3_init_17 ?_
  refine kt_i (y := nI (K + P)) (nI_add K P) ?_
  refine va_putF (D := (dC, dI)) (ci := 3) (v := .int (nI (K + P))) (ty := .int) (C := RX3) (T := TX3) (N := 9) hx hb hts inX3 tyX3 tyX3_ok nmX3 hown hK hP hD hS 0 rfl rfl 2 (by decide) hk_5 (fun _ h9 => h9) rfl hin rfl (by decide +kernel) rfl rfl (Nat.le_of_ble_eq_true rfl) dX3_init_18 (fun H locs hP hD hS => ?_)
  have hP : va_P (dC, dI) vwCl [(o, .inr (3, [.int (nI K), .int (nI P), .int (nI (K + P)), .int 0, .int 0, .null, .int 0, .null, .null])), (ya, .inl (cA 0, 12, .inl w))] H := hP
  have hD : va_D A [(o, .inr (3, [.int (nI K), .int (nI P), .int (nI (K + P)), .int 0, .int 0, .null, .int 0, .null, .null])), (ya, .inl (cA 0, 12, .inl w))] := hD
  refine lv_aload_n hx hb dX3_init_21 rfl (lv_at hl 0 rfl) ?_
  refine lv_iload_n hx hb dX3_init_22 rfl (lv_at hl 3 rfl) ?_
  refine va_putF (D := (dC, dI)) (ci := 3) (v := .int (nI S)) (ty := .int) (C := RX3) (T := TX3) (N := 9) hx hb hts inX3 tyX3 tyX3_ok nmX3 hown hK hP hD hS 0 rfl rfl 3 (by decide) hk_6 (fun _ h9 => h9) rfl hin rfl (by decide +kernel) rfl rfl (Nat.le_of_ble_eq_true rfl) dX3_init_23 (fun H locs hP hD hS => ?_)
  have hP : va_P (dC, dI) vwCl [(o, .inr (3, [.int (nI K), .int (nI P), .int (nI (K + P)), .int (nI S), .int 0, .null, .int 0, .null, .null])), (ya, .inl (cA 0, 12, .inl w))] H := hP
  have hD : va_D A [(o, .inr (3, [.int (nI K), .int (nI P), .int (nI (K + P)), .int (nI S), .int 0, .null, .int 0, .null, .null])), (ya, .inl (cA 0, 12, .inl w))] := hD
  refine lv_aload_n hx hb dX3_init_26 rfl (lv_at hl 0 rfl) ?_
  refine lv_iload hx hb dX3_init_27 (lv_at hl 4 rfl) ?_
  refine va_putF (D := (dC, dI)) (ci := 3) (v := .int seed) (ty := .int) (C := RX3) (T := TX3) (N := 9) hx hb hts inX3 tyX3 tyX3_ok nmX3 hown hK hP hD hS 0 rfl rfl 4 (by decide) hk_7 (fun _ h9 => h9) rfl hin rfl (by decide +kernel) rfl rfl (Nat.le_of_ble_eq_true rfl) dX3_init_29 (fun H locs hP hD hS => ?_)
  have hP : va_P (dC, dI) vwCl [(o, .inr (3, [.int (nI K), .int (nI P), .int (nI (K + P)), .int (nI S), .int seed, .null, .int 0, .null, .null])), (ya, .inl (cA 0, 12, .inl w))] H := hP
  have hD : va_D A [(o, .inr (3, [.int (nI K), .int (nI P), .int (nI (K + P)), .int (nI S), .int seed, .null, .int 0, .null, .null])), (ya, .inl (cA 0, 12, .inl w))] := hD
  refine lv_aload_n hx hb dX3_init_32 rfl (lv_at hl 0 rfl) ?_
  refine lv_bipush (v := 12) hx hb dX3_init_33 (by decide) ?_
  refine kn_newi (N' := 12) hx hb hk_8 hK hP hD hS hA (by decide) (by decide) (by decide) (Nat.le_of_ble_eq_true rfl) (Nat.le_of_ble_eq_true rfl) dX3_init_35 (fun q_1 H hP hD hS => ?_)
  have hP : va_P (dC, dI) vwCl [(o, .inr (3, [.int (nI K), .int (nI P), .int (nI (K + P)), .int (nI S), .int seed, .null, .int 0, .null, .null])), (ya, .inl (cA 0, 12, .inl w)), (q_1, .inl (cA 0, 12, .inl (fun _ => 0)))] H := hP
  have hD : va_D A [(o, .inr (3, [.int (nI K), .int (nI P), .int (nI (K + P)), .int (nI S), .int seed, .null, .int 0, .null, .null])), (ya, .inl (cA 0, 12, .inl w)), (q_1, .inl (cA 0, 12, .inl (fun _ => 0)))] := hD
  refine va_putF (D := (dC, dI)) (ci := 3) (v := .ref q_1) (ty := .array .int) (C := RX3) (T := TX3) (N := 9) hx hb hts inX3 tyX3 tyX3_ok nmX3 hown hK hP hD hS 0 rfl rfl 5 (by decide) hk_9 (fun _ h9 => h9) rfl hin rfl (by decide +kernel) rfl rfl (Nat.le_of_ble_eq_true rfl) dX3_init_37 (fun H locs hP hD hS => ?_)
  have hP : va_P (dC, dI) vwCl [(o, .inr (3, [.int (nI K), .int (nI P), .int (nI (K + P)), .int (nI S), .int seed, .ref q_1, .int 0, .null, .null])), (ya, .inl (cA 0, 12, .inl w)), (q_1, .inl (cA 0, 12, .inl (fun _ => 0)))] H := hP
  have hD : va_D A [(o, .inr (3, [.int (nI K), .int (nI P), .int (nI (K + P)), .int (nI S), .int seed, .ref q_1, .int 0, .null, .null])), (ya, .inl (cA 0, 12, .inl w)), (q_1, .inl (cA 0, 12, .inl (fun _ => 0)))] := hD
  refine lv_aload hx hb dX3_init_40 (lv_at hl 5 rfl) ?_
  refine lv_iconst (v := 0) hx hb dX3_init_42 (by decide) ?_
  refine lv_aload_n hx hb dX3_init_43 rfl (lv_at hl 0 rfl) ?_
  refine va_get (D := (dC, dI)) (ci := 3) (v := .ref q_1) (C := RX3) (T := TX3) (N := 9) hx hb hts inX3 hown hK hP 0 rfl rfl 5 (by decide) hk_9 (fun _ h9 => h9) rfl dX3_init_44 ?_
  refine lv_iconst (v := 0) hx hb dX3_init_47 (by decide) ?_
  refine lv_bipush (v := 12) hx hb dX3_init_48 (by decide) ?_
  refine va_copyi (D := (dC, dI)) hx hb (by rw [hml]; exact hl.1.symm) hown hk_10 hk_11 hk_12 hk_13 hK hP hD hS 1 2 0 0 rfl rfl rfl rfl rfl (by decide) (by decide) (by decide) (by decide) (by decide) (fun _ _ => rfl) (Nat.le_of_ble_eq_true rfl) (Nat.le_of_ble_eq_true rfl) dX3_init_50 (fun H locs hP hD hS => ?_)
  have hP : va_P (dC, dI) vwCl [(o, .inr (3, [.int (nI K), .int (nI P), .int (nI (K + P)), .int (nI S), .int seed, .ref q_1, .int 0, .null, .null])), (ya, .inl (cA 0, 12, .inl w)), (q_1, .inl (cA 0, 12, .inl (va_cpy w (fun _ => 0) 0 0 12)))] H := hP
  have hD : va_D A [(o, .inr (3, [.int (nI K), .int (nI P), .int (nI (K + P)), .int (nI S), .int seed, .ref q_1, .int 0, .null, .null])), (ya, .inl (cA 0, 12, .inl w)), (q_1, .inl (cA 0, 12, .inl (va_cpy w (fun _ => 0) 0 0 12)))] := hD
  refine lv_aload_n hx hb dX3_init_53 rfl (lv_at hl 0 rfl) ?_
  refine lv_aload_n hx hb dX3_init_54 rfl (lv_at hl 0 rfl) ?_
  refine va_get (D := (dC, dI)) (ci := 3) (v := .ref q_1) (C := RX3) (T := TX3) (N := 9) hx hb hts inX3 hown hK hP 0 rfl rfl 5 (by decide) hk_9 (fun _ h9 => h9) rfl dX3_init_55 ?_
  have hPc := hP.sub (ws' := [(q_1, .inl (cA 0, 12, .inl (va_cpy w (fun _ => 0) 0 0 12)))]) [2] rfl
  refine kq_csi (va_runSN (As := [.ref q_1]) (rest := [.ref o]) ⟨hx, hb, hml, hown, hts⟩ (c_FountainRows_totalOf l dC dI cA q_1 12 (va_cpy w (fun _ => 0) 0 0 12) (by decide)) ⟨va_cnB 1 hts (kg_I tb_205) rfl rfl rfl (hN.2 (RX3, 37, yX5_totalOf, "FountainRows") (List.mem_of_getElem? (i := 0) rfl)) (hts _ tb_54) (by decide +kernel) ⟨Nat.le_of_ble_eq_true rfl, Nat.le_of_ble_eq_true rfl⟩, hts _ tb_206, trivial⟩ (kps_ro hK hN hPc) rfl rfl hl.1 rfl (lv_room (Nat.le_of_ble_eq_true rfl)) dX3_init_58 ⟨Nat.le_of_ble_eq_true rfl, Nat.le_of_ble_eq_true rfl⟩) (fun r_2 hr_2 => ?_)
  subst hr_2
  refine va_putF (D := (dC, dI)) (ci := 3) (v := .int (bx_sum (va_cpy w (fun _ => 0) 0 0 12) 12)) (ty := .int) (C := RX3) (T := TX3) (N := 9) hx hb hts inX3 tyX3 tyX3_ok nmX3 hown hK hP hD hS 0 rfl rfl 6 (by decide) hk_14 (fun _ h9 => h9) rfl hin rfl (by decide +kernel) rfl rfl (Nat.le_of_ble_eq_true rfl) dX3_init_61 (fun H locs hP hD hS => ?_)
  have hP : va_P (dC, dI) vwCl [(o, .inr (3, [.int (nI K), .int (nI P), .int (nI (K + P)), .int (nI S), .int seed, .ref q_1, .int (bx_sum (va_cpy w (fun _ => 0) 0 0 12) 12), .null, .null])), (ya, .inl (cA 0, 12, .inl w)), (q_1, .inl (cA 0, 12, .inl (va_cpy w (fun _ => 0) 0 0 12)))] H := hP
  have hD : va_D A [(o, .inr (3, [.int (nI K), .int (nI P), .int (nI (K + P)), .int (nI S), .int seed, .ref q_1, .int (bx_sum (va_cpy w (fun _ => 0) 0 0 12) 12), .null, .null])), (ya, .inl (cA 0, 12, .inl w)), (q_1, .inl (cA 0, 12, .inl (va_cpy w (fun _ => 0) 0 0 12)))] := hD
  refine lv_aload_n hx hb dX3_init_64 rfl (lv_at hl 0 rfl) ?_
  refine lv_bipush (v := 32) hx hb dX3_init_65 (by decide) ?_
  refine kn_newl (N' := 32) hx hb hk_15 hK hP hD hS hA (by decide) (by decide) (by decide) (Nat.le_of_ble_eq_true rfl) (Nat.le_of_ble_eq_true rfl) dX3_init_67 (fun q_3 H hP hD hS => ?_)
  have hP : va_P (dC, dI) vwCl [(o, .inr (3, [.int (nI K), .int (nI P), .int (nI (K + P)), .int (nI S), .int seed, .ref q_1, .int (bx_sum (va_cpy w (fun _ => 0) 0 0 12) 12), .null, .null])), (ya, .inl (cA 0, 12, .inl w)), (q_1, .inl (cA 0, 12, .inl (va_cpy w (fun _ => 0) 0 0 12))), (q_3, .inl (cA 1, 32, .inr (.inl (fun _ => 0))))] H := hP
  have hD : va_D A [(o, .inr (3, [.int (nI K), .int (nI P), .int (nI (K + P)), .int (nI S), .int seed, .ref q_1, .int (bx_sum (va_cpy w (fun _ => 0) 0 0 12) 12), .null, .null])), (ya, .inl (cA 0, 12, .inl w)), (q_1, .inl (cA 0, 12, .inl (va_cpy w (fun _ => 0) 0 0 12))), (q_3, .inl (cA 1, 32, .inr (.inl (fun _ => 0))))] := hD
  refine va_putF (D := (dC, dI)) (ci := 3) (v := .ref q_3) (ty := .array .long) (C := RX3) (T := TX3) (N := 9) hx hb hts inX3 tyX3 tyX3_ok nmX3 hown hK hP hD hS 0 rfl rfl 8 (by decide) hk_16 (fun _ h9 => h9) rfl hin rfl (by decide +kernel) rfl rfl (Nat.le_of_ble_eq_true rfl) dX3_init_69 (fun H locs hP hD hS => ?_)
  have hP : va_P (dC, dI) vwCl [(o, .inr (3, [.int (nI K), .int (nI P), .int (nI (K + P)), .int (nI S), .int seed, .ref q_1, .int (bx_sum (va_cpy w (fun _ => 0) 0 0 12) 12), .null, .ref q_3])), (ya, .inl (cA 0, 12, .inl w)), (q_1, .inl (cA 0, 12, .inl (va_cpy w (fun _ => 0) 0 0 12))), (q_3, .inl (cA 1, 32, .inr (.inl (fun _ => 0))))] H := hP
  have hD : va_D A [(o, .inr (3, [.int (nI K), .int (nI P), .int (nI (K + P)), .int (nI S), .int seed, .ref q_1, .int (bx_sum (va_cpy w (fun _ => 0) 0 0 12) 12), .null, .ref q_3])), (ya, .inl (cA 0, 12, .inl w)), (q_1, .inl (cA 0, 12, .inl (va_cpy w (fun _ => 0) 0 0 12))), (q_3, .inl (cA 1, 32, .inr (.inl (fun _ => 0))))] := hD
  refine lv_aload_n hx hb dX3_init_72 rfl (lv_at hl 0 rfl) ?_
  refine lv_bipush (v := 8) hx hb dX3_init_73 (by decide) ?_
  refine kn_newl (N' := 8) hx hb hk_15 hK hP hD hS hA (by decide) (by decide) (by decide) (Nat.le_of_ble_eq_true rfl) (Nat.le_of_ble_eq_true rfl) dX3_init_75 (fun q_4 H hP hD hS => ?_)
  have hP : va_P (dC, dI) vwCl [(o, .inr (3, [.int (nI K), .int (nI P), .int (nI (K + P)), .int (nI S), .int seed, .ref q_1, .int (bx_sum (va_cpy w (fun _ => 0) 0 0 12) 12), .null, .ref q_3])), (ya, .inl (cA 0, 12, .inl w)), (q_1, .inl (cA 0, 12, .inl (va_cpy w (fun _ => 0) 0 0 12))), (q_3, .inl (cA 1, 32, .inr (.inl (fun _ => 0)))), (q_4, .inl (cA 1, 8, .inr (.inl (fun _ => 0))))] H := hP
  have hD : va_D A [(o, .inr (3, [.int (nI K), .int (nI P), .int (nI (K + P)), .int (nI S), .int seed, .ref q_1, .int (bx_sum (va_cpy w (fun _ => 0) 0 0 12) 12), .null, .ref q_3])), (ya, .inl (cA 0, 12, .inl w)), (q_1, .inl (cA 0, 12, .inl (va_cpy w (fun _ => 0) 0 0 12))), (q_3, .inl (cA 1, 32, .inr (.inl (fun _ => 0)))), (q_4, .inl (cA 1, 8, .inr (.inl (fun _ => 0))))] := hD
  refine va_putF (D := (dC, dI)) (ci := 3) (v := .ref q_4) (ty := .array .long) (C := RX3) (T := TX3) (N := 9) hx hb hts inX3 tyX3 tyX3_ok nmX3 hown hK hP hD hS 0 rfl rfl 7 (by decide) hk_17 (fun _ h9 => h9) rfl hin rfl (by decide +kernel) rfl rfl (Nat.le_of_ble_eq_true rfl) dX3_init_77 (fun H locs hP hD hS => ?_)
  have hP : va_P (dC, dI) vwCl [(o, .inr (3, [.int (nI K), .int (nI P), .int (nI (K + P)), .int (nI S), .int seed, .ref q_1, .int (bx_sum (va_cpy w (fun _ => 0) 0 0 12) 12), .ref q_4, .ref q_3])), (ya, .inl (cA 0, 12, .inl w)), (q_1, .inl (cA 0, 12, .inl (va_cpy w (fun _ => 0) 0 0 12))), (q_3, .inl (cA 1, 32, .inr (.inl (fun _ => 0)))), (q_4, .inl (cA 1, 8, .inr (.inl (fun _ => 0))))] H := hP
  have hD : va_D A [(o, .inr (3, [.int (nI K), .int (nI P), .int (nI (K + P)), .int (nI S), .int seed, .ref q_1, .int (bx_sum (va_cpy w (fun _ => 0) 0 0 12) 12), .ref q_4, .ref q_3])), (ya, .inl (cA 0, 12, .inl w)), (q_1, .inl (cA 0, 12, .inl (va_cpy w (fun _ => 0) 0 0 12))), (q_3, .inl (cA 1, 32, .inr (.inl (fun _ => 0)))), (q_4, .inl (cA 1, 8, .inr (.inl (fun _ => 0))))] := hD
  refine lv_iconst (v := 0) hx hb dX3_init_80 (by decide) ?_
  refine lv_istore (lv' := [(6, .int 0), (0, .ref o), (1, .int (nI K)), (2, .int (nI P)), (3, .int (nI S)), (4, .int seed), (5, .ref ya)]) hx hb dX3_init_81 hl (by decide) rfl (fun ls hl => ?_)
  have hi_hk : 0 ≤ P := (by omega)
  have hi_hf1 : (fun _ => 0) = sp_sv K P seed 0 := rfl
  have hl9 : lv_has ls 7 [(6, .int (nI 0)), (0, .ref o), (1, .int (nI K)), (2, .int (nI P)), (3, .int (nI S)), (4, .int seed), (5, .ref ya)] := lv_sub hl [0, 1, 2, 3, 4, 5, 6] rfl
  refine k_loop2 (I := fun (k : Nat) (f1 : Nat → Int64) (H : Heap) (locs : List Loc) (ls : Array Slot) => (k ≤ P) ∧ (f1 = sp_sv K P seed k) ∧ lv_has ls 7 [(6, .int (nI k)), (0, .ref o), (1, .int (nI K)), (2, .int (nI P)), (3, .int (nI S)), (4, .int seed), (5, .ref ya)] ∧ va_P (dC, dI) vwCl [(o, .inr (3, [.int (nI K), .int (nI P), .int (nI (K + P)), .int (nI S), .int seed, .ref q_1, .int (bx_sum (va_cpy w (fun _ => 0) 0 0 12) 12), .ref q_4, .ref q_3])), (ya, .inl (cA 0, 12, .inl w)), (q_1, .inl (cA 0, 12, .inl (va_cpy w (fun _ => 0) 0 0 12))), (q_3, .inl (cA 1, 32, .inr (.inl (fun _ => 0)))), (q_4, .inl (cA 1, 8, .inr (.inl f1)))] H ∧ va_D A [(o, .inr (3, [.int (nI K), .int (nI P), .int (nI (K + P)), .int (nI S), .int seed, .ref q_1, .int (bx_sum (va_cpy w (fun _ => 0) 0 0 12) 12), .ref q_4, .ref q_3])), (ya, .inl (cA 0, 12, .inl w)), (q_1, .inl (cA 0, 12, .inl (va_cpy w (fun _ => 0) 0 0 12))), (q_3, .inl (cA 1, 32, .inr (.inl (fun _ => 0)))), (q_4, .inl (cA 1, 8, .inr (.inl f1)))] ∧ va_S A s.heap H locs) (μ := fun k f1 => P - k) ?_ 0 (fun _ => 0) ⟨hi_hk, hi_hf1, hl9, hP, hD, hS⟩
  intro k f1 H locs ls hI9 ih_L0
  obtain ⟨hk, hf1, hl, hP, hD, hS⟩ := hI9
  refine lv_iload hx hb dX3_init_83 (lv_at hl 0 rfl) ?_
  refine lv_iload_n hx hb dX3_init_85 rfl (lv_at hl 3 rfl) ?_
  refine lv_icmp_ge (tgt := 123) hx hb dX3_init_86 (by decide) (fun c_5 => ?_) (fun c_5 => ?_)
  · have c_5 : (nI P) ≤ (nI k) := c_5
    have hk9 : P ≤ k := (ku_le (a := P) (b := k) (by omega) (by omega)).mp c_5
    have eP : k = P := by omega
    have hP9 := hP.sub (ws' := [(o, .inr (3, [.int (nI K), .int (nI P), .int (nI (K + P)), .int (nI S), .int seed, .ref q_1, .int (bx_sum (va_cpy w (fun _ => 0) 0 0 12) 12), .ref q_4, .ref q_3])), (q_1, .inl (cA 0, 12, .inl (va_cpy w (fun _ => 0) 0 0 12))), (q_4, .inl (cA 1, 8, .inr (.inl f1))), (q_3, .inl (cA 1, 32, .inr (.inl (fun _ => 0)))), (ya, .inl (cA 0, 12, .inl w))]) [0, 2, 4, 3, 1] rfl
    have hD9 := hD.sub (ws' := [(o, .inr (3, [.int (nI K), .int (nI P), .int (nI (K + P)), .int (nI S), .int seed, .ref q_1, .int (bx_sum (va_cpy w (fun _ => 0) 0 0 12) 12), .ref q_4, .ref q_3])), (q_1, .inl (cA 0, 12, .inl (va_cpy w (fun _ => 0) 0 0 12))), (q_4, .inl (cA 1, 8, .inr (.inl f1))), (q_3, .inl (cA 1, 32, .inr (.inl (fun _ => 0)))), (ya, .inl (cA 0, 12, .inl w))]) [0, 2, 4, 3, 1] (by decide) rfl
    have e9_0 : sp_sv K P seed P = f1 := (by first | rfl | (rw [hf1, eP]))
    have e9 : ([(o, .inr (3, [.int (nI K), .int (nI P), .int (nI (K + P)), .int (nI S), .int seed, .ref q_1, .int (bx_sum (va_cpy w (fun _ => 0) 0 0 12) 12), .ref q_4, .ref q_3])), (q_1, .inl (cA 0, 12, .inl (va_cpy w (fun _ => 0) 0 0 12))), (q_4, .inl (cA 1, 8, .inr (.inl (sp_sv K P seed P)))), (q_3, .inl (cA 1, 32, .inr (.inl (fun _ => 0)))), (ya, .inl (cA 0, 12, .inl w))] : va_W) = [(o, .inr (3, [.int (nI K), .int (nI P), .int (nI (K + P)), .int (nI S), .int seed, .ref q_1, .int (bx_sum (va_cpy w (fun _ => 0) 0 0 12) 12), .ref q_4, .ref q_3])), (q_1, .inl (cA 0, 12, .inl (va_cpy w (fun _ => 0) 0 0 12))), (q_4, .inl (cA 1, 8, .inr (.inl f1))), (q_3, .inl (cA 1, 32, .inr (.inl (fun _ => 0)))), (ya, .inl (cA 0, 12, .inl w))] := by rw [e9_0]
    exact W.vret hx hb hr (fun t9 ht9 hW9 => ⟨⟨(q_1, q_4, q_3), rfl, trivial, by rw [ht9, e9]; exact hP9, by rw [e9]; exact hD9⟩, hS.F ht9⟩) hS.2.2 dX3_init_123
  · have c_5 : ¬ ((nI P) ≤ (nI k)) := c_5
    have hk9 : k < P := (ku_nle (a := P) (b := k) (by omega) (by omega)).mp c_5
    refine lv_iload hx hb dX3_init_89 (lv_at hl 0 rfl) ?_
    refine lv_bipush (v := 8) hx hb dX3_init_91 (by decide) ?_
    refine lv_icmp_ge (tgt := 123) hx hb dX3_init_93 (by decide) (fun c_6 => ?_) (fun c_6 => ?_)
    · have c_6 : 8 ≤ (nI k) := c_6
      exact absurd ((ku_le (a := 8) (b := k) (by omega) (by omega)).mp c_6) (by omega)
    · have c_6 : ¬ (8 ≤ (nI k)) := c_6
      refine lv_aload_n hx hb dX3_init_96 rfl (lv_at hl 1 rfl) ?_
      refine va_get (D := (dC, dI)) (ci := 3) (v := .ref q_4) (C := RX3) (T := TX3) (N := 9) hx hb hts inX3 hown hK hP 0 rfl rfl 7 (by decide) hk_17 (fun _ h9 => h9) rfl dX3_init_97 ?_
      refine lv_iload hx hb dX3_init_100 (lv_at hl 0 rfl) ?_
      refine lv_iload hx hb dX3_init_102 (lv_at hl 5 rfl) ?_
      refine lv_ldc (v := 40503) hx hb hown hk_18 dX3_init_104 ?_
      refine lv_iload hx hb dX3_init_106 (lv_at hl 0 rfl) ?_
      refine lv_iconst (v := 1) hx hb dX3_init_108 (by decide) ?_
      refine lv_iadd hx hb dX3_init_109 ?_
      refine kt_i (y := nI (k + 1)) (nI_add k 1) ?_
      refine lv_imul hx hb dX3_init_110 ?_
      refine kt_i (y := nI (40503 * (k + 1))) (pk_mul 40503 (k + 1)) ?_
      refine lv_iadd hx hb dX3_init_111 ?_
      refine lv_iload_n hx hb dX3_init_112 rfl (lv_at hl 2 rfl) ?_
      have hPc := hP.sub (ws' := []) [] rfl
      refine kq_csl (va_runS (As := [.int (seed + (nI (40503 * (k + 1)))), .int (nI K)]) (rest := [.int (nI k), .ref q_4]) ⟨hx, hb, hml, hown, hts⟩ (c_Source_drawSymbols l dC dI cA (seed + (nI (40503 * (k + 1)))) K (by first | assumption | omega)) (va_cwS 2 hts (kg_S tb_208 tb_209 tb_45 tb_207) rfl rfl rfl (by decide +kernel) ⟨Nat.le_of_ble_eq_true rfl, Nat.le_of_ble_eq_true rfl⟩) (kps_ro hK hN hPc) rfl rfl hl.1 rfl (lv_room (Nat.le_of_ble_eq_true rfl)) dX3_init_113 ⟨Nat.le_of_ble_eq_true rfl, Nat.le_of_ble_eq_true rfl⟩) (fun r_7 hr_7 => ?_)
      subst hr_7
      refine va_last (D := (dC, dI)) hx hb hK hP hD hS 4 1 rfl rfl (vp_in_nI (by omega) (by omega)) dX3_init_116 (fun H locs hP hD hS => ?_)
      rw [nI_clamp (by omega : k < 2 ^ 31)] at hP hD
      have hP : va_P (dC, dI) vwCl [(o, .inr (3, [.int (nI K), .int (nI P), .int (nI (K + P)), .int (nI S), .int seed, .ref q_1, .int (bx_sum (va_cpy w (fun _ => 0) 0 0 12) 12), .ref q_4, .ref q_3])), (ya, .inl (cA 0, 12, .inl w)), (q_1, .inl (cA 0, 12, .inl (va_cpy w (fun _ => 0) 0 0 12))), (q_3, .inl (cA 1, 32, .inr (.inl (fun _ => 0)))), (q_4, .inl (cA 1, 8, .inr (.inl (vp_updL f1 k (sp_drawb (seed + (nI (40503 * (k + 1)))) K)))))] H := hP
      have hD : va_D A [(o, .inr (3, [.int (nI K), .int (nI P), .int (nI (K + P)), .int (nI S), .int seed, .ref q_1, .int (bx_sum (va_cpy w (fun _ => 0) 0 0 12) 12), .ref q_4, .ref q_3])), (ya, .inl (cA 0, 12, .inl w)), (q_1, .inl (cA 0, 12, .inl (va_cpy w (fun _ => 0) 0 0 12))), (q_3, .inl (cA 1, 32, .inr (.inl (fun _ => 0)))), (q_4, .inl (cA 1, 8, .inr (.inl (vp_updL f1 k (sp_drawb (seed + (nI (40503 * (k + 1)))) K)))))] := hD
      refine lv_iinc (v := nI (k + 1)) (lv' := [(6, .int (nI (k + 1))), (0, .ref o), (1, .int (nI K)), (2, .int (nI P)), (3, .int (nI S)), (4, .int seed), (5, .ref ya)]) hx hb dX3_init_117 hl (k := 0) rfl (nI_succ _).symm (by decide) rfl (fun ls hl => ?_)
      refine lv_goto (tgt := 83) hx hb dX3_init_120 (by decide) ?_
      have hi_hk : (k + 1) ≤ P := (by omega)
      have hi_hf1 : (vp_updL f1 k (sp_drawb (seed + (nI (40503 * (k + 1)))) K)) = sp_sv K P seed (k + 1) := (by rw [hf1]; rfl)
      have hl9 : lv_has ls 7 [(6, .int (nI (k + 1))), (0, .ref o), (1, .int (nI K)), (2, .int (nI P)), (3, .int (nI S)), (4, .int seed), (5, .ref ya)] := lv_sub hl [0, 1, 2, 3, 4, 5, 6] rfl
      have hP9 : va_P (dC, dI) vwCl [(o, .inr (3, [.int (nI K), .int (nI P), .int (nI (K + P)), .int (nI S), .int seed, .ref q_1, .int (bx_sum (va_cpy w (fun _ => 0) 0 0 12) 12), .ref q_4, .ref q_3])), (ya, .inl (cA 0, 12, .inl w)), (q_1, .inl (cA 0, 12, .inl (va_cpy w (fun _ => 0) 0 0 12))), (q_3, .inl (cA 1, 32, .inr (.inl (fun _ => 0)))), (q_4, .inl (cA 1, 8, .inr (.inl (vp_updL f1 k (sp_drawb (seed + (nI (40503 * (k + 1)))) K)))))] H := hP
      have hD9 : va_D A [(o, .inr (3, [.int (nI K), .int (nI P), .int (nI (K + P)), .int (nI S), .int seed, .ref q_1, .int (bx_sum (va_cpy w (fun _ => 0) 0 0 12) 12), .ref q_4, .ref q_3])), (ya, .inl (cA 0, 12, .inl w)), (q_1, .inl (cA 0, 12, .inl (va_cpy w (fun _ => 0) 0 0 12))), (q_3, .inl (cA 1, 32, .inr (.inl (fun _ => 0)))), (q_4, .inl (cA 1, 8, .inr (.inl (vp_updL f1 k (sp_drawb (seed + (nI (40503 * (k + 1)))) K)))))] := hD
      exact ih_L0 (k + 1) (vp_updL f1 k (sp_drawb (seed + (nI (40503 * (k + 1)))) K)) H locs ls ⟨hi_hk, hi_hf1, hl9, hP9, hD9, hS⟩ (by show P - (k + 1) < P - k; omega)
set_option maxHeartbeats 4000000 in
set_option maxRecDepth 100000 in
theorem c_Receiver_init (l : Launch) (dC : Nat → ClassId) (dI : Nat → Nat → Nat) (cA : Nat → ClassId) (sz : Nat) (ro : Nat) (o : Nat) (wa : Nat) (ua : Nat) (sa : Nat) (K : Nat) (P : Nat) (S : Nat) (seed : Int32) (T : Int32) (su : Nat → Int64) (hK32 : K ≤ 32) (hP8 : P ≤ 8) : Met l yX2_init (kw_X2_init) ({ frames := 4, cells := 7, slots := 288, locals := 94 }) (va_Pc [.ref ro, .ref o] (fun U => kRW dC dI cA [(ro, .inr (2, [.null, .null, .null, .int 0, .null, .null, .null, .int 0, .int 0, .int 0, .int 0])), (o, .inr (3, [.int (nI K), .int (nI P), .int (nI (K + P)), .int (nI S), .int seed, .ref wa, .int T, .ref ua, .ref sa])), (ua, .inl (cA 1, 8, .inr (.inl su)))] sz U)) (va_Qv (fun (u : Nat × Nat × Nat × Nat × Nat × Nat × Nat) => True) (fun (u : Nat × Nat × Nat × Nat × Nat × Nat × Nat) t => kB dC dI (va_A [(ro, .inr (2, [.null, .null, .null, .int 0, .null, .null, .null, .int 0, .int 0, .int 0, .int 0])), (o, .inr (3, [.int (nI K), .int (nI P), .int (nI (K + P)), .int (nI S), .int seed, .ref wa, .int T, .ref ua, .ref sa])), (ua, .inl (cA 1, 8, .inr (.inl su)))] sz) [(ro, .inr (2, [.ref o, .ref u.1, .ref u.2.2.2.1, .int ((sp_rd0 K P su sp_z00).2.2.2.2.2), .ref u.2.2.2.2.1, .ref u.2.2.2.2.2.1, .ref u.2.2.2.2.2.2, .int (nI ((sp_rd0 K P su sp_z00).2.2.2.2.1)), .int 0, .int 0, .int 0])), (u.1, .inr (4, [.ref u.2.1, .ref u.2.2.1, .int (nI (((sp_rd0 K P su sp_z00).1).2.2.1)), .long (((sp_rd0 K P su sp_z00).1).2.2.2.1), .long (((sp_rd0 K P su sp_z00).1).2.2.2.2)])), (u.2.1, .inl (cA 1, 40, .inr (.inl (((sp_rd0 K P su sp_z00).1).1)))), (u.2.2.1, .inl (cA 1, 40, .inr (.inl (((sp_rd0 K P su sp_z00).1).2.1)))), (u.2.2.2.2.1, .inl (cA 0, 64, .inl ((sp_rd0 K P su sp_z00).2.1))), (u.2.2.2.2.2.1, .inl (cA 1, 64, .inr (.inl ((sp_rd0 K P su sp_z00).2.2.1)))), (u.2.2.2.2.2.2, .inl (cA 1, 72, .inr (.inl ((sp_rd0 K P su sp_z00).2.2.2.1)))), (u.2.2.2.1, .inr (1, [.long 0, .long 0, .long 0])), (o, .inr (3, [.int (nI K), .int (nI P), .int (nI (K + P)), .int (nI S), .int seed, .ref wa, .int T, .ref ua, .ref sa])), (ua, .inl (cA 1, 8, .inr (.inl su)))] t) (va_A [(ro, .inr (2, [.null, .null, .null, .int 0, .null, .null, .null, .int 0, .int 0, .int 0, .int 0])), (o, .inr (3, [.int (nI K), .int (nI P), .int (nI (K + P)), .int (nI S), .int seed, .ref wa, .int T, .ref ua, .ref sa])), (ua, .inl (cA 1, 8, .inr (.inl su)))] sz)) 7 288 (va_A [(ro, .inr (2, [.null, .null, .null, .int 0, .null, .null, .null, .int 0, .int 0, .int 0, .int 0])), (o, .inr (3, [.int (nI K), .int (nI P), .int (nI (K + P)), .int (nI S), .int seed, .ref wa, .int T, .ref ua, .ref sa])), (ua, .inl (cA 1, 8, .inr (.inl su)))] sz) := by
  refine Met.ofW (cc := cX2_init) (maxL := 2) (ret := none) (by decide) rfl ?_
  intro p e s m args below meth c s₁ B hml hv
  obtain ⟨rfl, hsz, hP, hK, hN, hD0⟩ := hv
  have hx := B.exec
  have hb := B.bytes
  have hr := B.returns
  have hts0 := atoms_spec (ws := (kw_X2_init)) B.pre
  have hts : ∀ w ∈ TB, w.before _ s = true := fun w h => hts0 w (List.mem_cons_of_mem _ h)
  have hown : s.vm.findClass RX2 = some m.cls := findClass_of_methodNamed B.named
  have hlocks := B.notSynchronized
  have hin : meth.name = "<init>" := (name_of_methodNamed B.named B.method).1
  subst hsz
  have hD := hD0.self (sz := s.heap.size)
  generalize hAe : va_A [(ro, .inr (2, [.null, .null, .null, .int 0, .null, .null, .null, .int 0, .int 0, .int 0, .int 0])), (o, .inr (3, [.int (nI K), .int (nI P), .int (nI (K + P)), .int (nI S), .int seed, .ref wa, .int T, .ref ua, .ref sa])), (ua, .inl (cA 1, 8, .inr (.inl su)))] s.heap.size = A at hD ⊢
  have hA : ∀ q : Nat, s.heap.size ≤ q → A q := fun q h => by rw [← hAe]; exact Or.inr h
  have hS : va_S A s.heap s.heap [] := va_S.rf
  have hk_0 := hts (.methodLink RX2 3 objectInit) tb_219
  have hk_1 := hts (.instanceMethod objectInit) tb_31
  have hk_2 := hts (.code objectInit ⟨#[0xb1]⟩ 1 none) tb_32
  have hk_3 := hts (.fieldLink RX2 9 "FountainRows$Receiver" "origin" "LFountainRows$Source;") tb_132
  have hk_4 := hts (.classLink RX2 15 RX4) tb_220
  have hk_5 := hts (.instantiable RX4 5) tb_221
  have hk_6 := hts (.initialized RX4) tb_98
  have hk_7 := hts (.fieldLink RX2 18 "FountainRows$Receiver" "span" "LFountainRows$Span;") tb_154
  have hk_8 := hts (.classLink RX2 22 RX1) tb_222
  have hk_9 := hts (.instantiable RX1 3) tb_223
  have hk_10 := hts (.initialized RX1) tb_117
  have hk_11 := hts (.fieldLink RX2 25 "FountainRows$Receiver" "peeling" "LFountainRows$Peeling;") tb_138
  have hk_12 := hts (.arrayClass .int) tb_37
  have hk_13 := hts (.fieldLink RX2 29 "FountainRows$Receiver" "numbers" "[I") tb_130
  have hk_14 := hts (.arrayClass .long) tb_204
  have hk_15 := hts (.fieldLink RX2 33 "FountainRows$Receiver" "outputs" "[J") tb_164
  have hk_16 := hts (.fieldLink RX2 37 "FountainRows$Receiver" "rows" "[J") tb_139
  have hl := lv_entry ([.ref ro, .ref o]) (n := 2) (Nat.le_of_ble_eq_true rfl)
  rw [lg_entry_eq]
  generalize (lg_sl ([.ref ro, .ref o]) ++ List.replicate (2 - (lg_sl ([.ref ro, .ref o])).length) Slot.unset).toArray = ls at hl ⊢
  have hl : lv_has ls 2 [(0, .ref ro), (1, .ref o)] := hl
  refine lv_aload_n hx hb dX2_init_0 rfl (lv_at hl 0 rfl) ?_
  refine W.objInit hx hb hown hk_0 hk_1 hk_2 rfl (by rw [hml]; exact hl.1) rfl dX2_init_1 (Nat.le_of_ble_eq_true rfl) (Nat.le_of_ble_eq_true rfl) ?_
  refine W.eq (g2 := F0 m 4 ls []) rfl ?_
  refine lv_aload_n hx hb dX2_init_4 rfl (lv_at hl 0 rfl) ?_
  refine lv_aload_n hx hb dX2_init_5 rfl (lv_at hl 1 rfl) ?_
  refine va_putF (D := (dC, dI)) (ci := 2) (v := .ref o) (ty := .object "FountainRows$Source") (C := RX2) (T := TX2) (N := 11) hx hb hts inX2 tyX2 tyX2_ok nmX2 hown hK hP hD hS 0 rfl rfl 0 (by decide) hk_3 (fun _ h9 => h9) rfl hin rfl (by decide +kernel) rfl rfl (Nat.le_of_ble_eq_true rfl) dX2_init_6 (fun H locs hP hD hS => ?_)
  have hP : va_P (dC, dI) vwCl [(ro, .inr (2, [.ref o, .null, .null, .int 0, .null, .null, .null, .int 0, .int 0, .int 0, .int 0])), (o, .inr (3, [.int (nI K), .int (nI P), .int (nI (K + P)), .int (nI S), .int seed, .ref wa, .int T, .ref ua, .ref sa])), (ua, .inl (cA 1, 8, .inr (.inl su)))] H := hP
  have hD : va_D A [(ro, .inr (2, [.ref o, .null, .null, .int 0, .null, .null, .null, .int 0, .int 0, .int 0, .int 0])), (o, .inr (3, [.int (nI K), .int (nI P), .int (nI (K + P)), .int (nI S), .int seed, .ref wa, .int T, .ref ua, .ref sa])), (ua, .inl (cA 1, 8, .inr (.inl su)))] := hD
  refine lv_aload_n hx hb dX2_init_9 rfl (lv_at hl 0 rfl) ?_
  refine va_new (D := (dC, dI)) (ci := 4) (fs := [.null, .null, .int 0, .long 0, .long 0]) (C := RX4) (T := TX4) (N := 5) hx hb hts inX4 tyX4 tyX4_ok hown hk_4 hk_5 hk_6 hK hP hD hS hA rfl (fun j hj => by rcases (show j = 0 ∨ j = 1 ∨ j = 2 ∨ j = 3 ∨ j = 4 by omega) with rfl | rfl | rfl | rfl | rfl <;> rfl) (Nat.le_of_ble_eq_true rfl) (Nat.le_of_ble_eq_true rfl) dX2_init_10 (fun q_1 H hP hD hS => ?_)
  have hP : va_P (dC, dI) vwCl [(ro, .inr (2, [.ref o, .null, .null, .int 0, .null, .null, .null, .int 0, .int 0, .int 0, .int 0])), (o, .inr (3, [.int (nI K), .int (nI P), .int (nI (K + P)), .int (nI S), .int seed, .ref wa, .int T, .ref ua, .ref sa])), (ua, .inl (cA 1, 8, .inr (.inl su))), (q_1, .inr (4, [.null, .null, .int 0, .long 0, .long 0]))] H := hP
  have hD : va_D A [(ro, .inr (2, [.ref o, .null, .null, .int 0, .null, .null, .null, .int 0, .int 0, .int 0, .int 0])), (o, .inr (3, [.int (nI K), .int (nI P), .int (nI (K + P)), .int (nI S), .int seed, .ref wa, .int T, .ref ua, .ref sa])), (ua, .inl (cA 1, 8, .inr (.inl su))), (q_1, .inr (4, [.null, .null, .int 0, .long 0, .long 0]))] := hD
  refine lv_dup hx hb dX2_init_13 rfl ?_
  have hPc := hP.sub (ws' := [(q_1, .inr (4, [.null, .null, .int 0, .long 0, .long 0]))]) [3] rfl
  have hDc := hD.sub (ws' := [(q_1, .inr (4, [.null, .null, .int 0, .long 0, .long 0]))]) [3] (by decide) rfl
  have hFc := va_free (wc := [(q_1, .inr (4, [.null, .null, .int 0, .long 0, .long 0]))]) hD hS hA [3] rfl
  refine va_callv (va_runIN (As := []) (rest := [.ref q_1, .ref ro]) ⟨hx, hb, hml, hown, hts⟩ (c_Span_init l dC dI cA H.size q_1) ⟨va_cnB 0 hts (kg_I tb_215) rfl rfl rfl (hN.2 (RX2, 17, yX4_init, "FountainRows") (List.mem_of_getElem? (i := 3) rfl)) (hts _ tb_98) (by decide +kernel) ⟨Nat.le_of_ble_eq_true rfl, Nat.le_of_ble_eq_true rfl⟩, rfl, hts _ tb_216⟩ (kps_rw hK hN hPc hDc) rfl rfl hl.1 rfl (lv_room (Nat.le_of_ble_eq_true rfl)) dX2_init_14 ⟨Nat.le_of_ble_eq_true rfl, Nat.le_of_ble_eq_true rfl⟩) hS (fun q _ h => hFc q h) hFc (fun u9 t9 H1 locs ht9 hvm9 hr_2 hB hz1 hk1 hS => ?_)
  obtain ⟨ra_3, va_4⟩ := u9
  obtain ⟨hP1, hD1⟩ := hB
  rw [ht9] at hP1
  obtain ⟨hP, hD⟩ := va_join (wr := [(ro, .inr (2, [.ref o, .null, .null, .int 0, .null, .null, .null, .int 0, .int 0, .int 0, .int 0])), (o, .inr (3, [.int (nI K), .int (nI P), .int (nI (K + P)), .int (nI S), .int seed, .ref wa, .int T, .ref ua, .ref sa])), (ua, .inl (cA 1, 8, .inr (.inl su)))]) (w1 := [(q_1, .inr (4, [.ref ra_3, .ref va_4, .int (nI 0), .long 0, .long 0])), (ra_3, .inl (cA 1, 40, .inr (.inl (fun _ => 0)))), (va_4, .inl (cA 1, 40, .inr (.inl (fun _ => 0))))]) hP hD [3] [0, 1, 2] rfl rfl (by decide) (by decide) hk1 hFc hP1 hD1
  generalize H1 = H at hP hS ⊢
  have hP : va_P (dC, dI) vwCl [(ro, .inr (2, [.ref o, .null, .null, .int 0, .null, .null, .null, .int 0, .int 0, .int 0, .int 0])), (o, .inr (3, [.int (nI K), .int (nI P), .int (nI (K + P)), .int (nI S), .int seed, .ref wa, .int T, .ref ua, .ref sa])), (ua, .inl (cA 1, 8, .inr (.inl su))), (q_1, .inr (4, [.ref ra_3, .ref va_4, .int (nI 0), .long 0, .long 0])), (ra_3, .inl (cA 1, 40, .inr (.inl (fun _ => 0)))), (va_4, .inl (cA 1, 40, .inr (.inl (fun _ => 0))))] H := hP
  have hD : va_D A [(ro, .inr (2, [.ref o, .null, .null, .int 0, .null, .null, .null, .int 0, .int 0, .int 0, .int 0])), (o, .inr (3, [.int (nI K), .int (nI P), .int (nI (K + P)), .int (nI S), .int seed, .ref wa, .int T, .ref ua, .ref sa])), (ua, .inl (cA 1, 8, .inr (.inl su))), (q_1, .inr (4, [.ref ra_3, .ref va_4, .int (nI 0), .long 0, .long 0])), (ra_3, .inl (cA 1, 40, .inr (.inl (fun _ => 0)))), (va_4, .inl (cA 1, 40, .inr (.inl (fun _ => 0))))] := hD
  refine W.widen (k := 3) (n := 85) (by omega) (by omega) ?_
  refine va_putF (D := (dC, dI)) (ci := 2) (v := .ref q_1) (ty := .object "FountainRows$Span") (C := RX2) (T := TX2) (N := 11) hx hb hts inX2 tyX2 tyX2_ok nmX2 hown hK hP hD hS 0 rfl rfl 1 (by decide) hk_7 (fun _ h9 => h9) rfl hin rfl (by decide +kernel) rfl rfl (Nat.le_of_ble_eq_true rfl) dX2_init_17 (fun H locs hP hD hS => ?_)
  have hP : va_P (dC, dI) vwCl [(ro, .inr (2, [.ref o, .ref q_1, .null, .int 0, .null, .null, .null, .int 0, .int 0, .int 0, .int 0])), (o, .inr (3, [.int (nI K), .int (nI P), .int (nI (K + P)), .int (nI S), .int seed, .ref wa, .int T, .ref ua, .ref sa])), (ua, .inl (cA 1, 8, .inr (.inl su))), (q_1, .inr (4, [.ref ra_3, .ref va_4, .int (nI 0), .long 0, .long 0])), (ra_3, .inl (cA 1, 40, .inr (.inl (fun _ => 0)))), (va_4, .inl (cA 1, 40, .inr (.inl (fun _ => 0))))] H := hP
  have hD : va_D A [(ro, .inr (2, [.ref o, .ref q_1, .null, .int 0, .null, .null, .null, .int 0, .int 0, .int 0, .int 0])), (o, .inr (3, [.int (nI K), .int (nI P), .int (nI (K + P)), .int (nI S), .int seed, .ref wa, .int T, .ref ua, .ref sa])), (ua, .inl (cA 1, 8, .inr (.inl su))), (q_1, .inr (4, [.ref ra_3, .ref va_4, .int (nI 0), .long 0, .long 0])), (ra_3, .inl (cA 1, 40, .inr (.inl (fun _ => 0)))), (va_4, .inl (cA 1, 40, .inr (.inl (fun _ => 0))))] := hD
  refine lv_aload_n hx hb dX2_init_20 rfl (lv_at hl 0 rfl) ?_
  refine va_new (D := (dC, dI)) (ci := 1) (fs := [.long 0, .long 0, .long 0]) (C := RX1) (T := TX1) (N := 3) hx hb hts inX1 tyX1 tyX1_ok hown hk_8 hk_9 hk_10 hK hP hD hS hA rfl (fun j hj => by rcases (show j = 0 ∨ j = 1 ∨ j = 2 by omega) with rfl | rfl | rfl <;> rfl) (Nat.le_of_ble_eq_true rfl) (Nat.le_of_ble_eq_true rfl) dX2_init_21 (fun q_5 H hP hD hS => ?_)
  have hP : va_P (dC, dI) vwCl [(ro, .inr (2, [.ref o, .ref q_1, .null, .int 0, .null, .null, .null, .int 0, .int 0, .int 0, .int 0])), (o, .inr (3, [.int (nI K), .int (nI P), .int (nI (K + P)), .int (nI S), .int seed, .ref wa, .int T, .ref ua, .ref sa])), (ua, .inl (cA 1, 8, .inr (.inl su))), (q_1, .inr (4, [.ref ra_3, .ref va_4, .int (nI 0), .long 0, .long 0])), (ra_3, .inl (cA 1, 40, .inr (.inl (fun _ => 0)))), (va_4, .inl (cA 1, 40, .inr (.inl (fun _ => 0)))), (q_5, .inr (1, [.long 0, .long 0, .long 0]))] H := hP
  have hD : va_D A [(ro, .inr (2, [.ref o, .ref q_1, .null, .int 0, .null, .null, .null, .int 0, .int 0, .int 0, .int 0])), (o, .inr (3, [.int (nI K), .int (nI P), .int (nI (K + P)), .int (nI S), .int seed, .ref wa, .int T, .ref ua, .ref sa])), (ua, .inl (cA 1, 8, .inr (.inl su))), (q_1, .inr (4, [.ref ra_3, .ref va_4, .int (nI 0), .long 0, .long 0])), (ra_3, .inl (cA 1, 40, .inr (.inl (fun _ => 0)))), (va_4, .inl (cA 1, 40, .inr (.inl (fun _ => 0)))), (q_5, .inr (1, [.long 0, .long 0, .long 0]))] := hD
  refine lv_dup hx hb dX2_init_24 rfl ?_
  have hPc := hP.sub (ws' := [(q_5, .inr (1, [.long 0, .long 0, .long 0]))]) [6] rfl
  have hDc := hD.sub (ws' := [(q_5, .inr (1, [.long 0, .long 0, .long 0]))]) [6] (by decide) rfl
  have hFc := va_free (wc := [(q_5, .inr (1, [.long 0, .long 0, .long 0]))]) hD hS hA [6] rfl
  refine va_callv (va_runIN (As := []) (rest := [.ref q_5, .ref ro]) ⟨hx, hb, hml, hown, hts⟩ (c_Peeling_init l dC dI cA H.size q_5) ⟨va_cnB 0 hts (kg_I tb_217) rfl rfl rfl (hN.2 (RX2, 24, yX1_init, "FountainRows") (List.mem_of_getElem? (i := 4) rfl)) (hts _ tb_117) (by decide +kernel) ⟨Nat.le_of_ble_eq_true rfl, Nat.le_of_ble_eq_true rfl⟩, rfl, hts _ tb_218⟩ (kps_rw hK hN hPc hDc) rfl rfl hl.1 rfl (lv_room (Nat.le_of_ble_eq_true rfl)) dX2_init_25 ⟨Nat.le_of_ble_eq_true rfl, Nat.le_of_ble_eq_true rfl⟩) hS (fun q _ h => hFc q h) hFc (fun u9 t9 H1 locs ht9 hvm9 hr_6 hB hz1 hk1 hS => ?_)
  obtain ⟨hP1, hD1⟩ := hB
  rw [ht9] at hP1
  obtain ⟨hP, hD⟩ := va_join (wr := [(ro, .inr (2, [.ref o, .ref q_1, .null, .int 0, .null, .null, .null, .int 0, .int 0, .int 0, .int 0])), (o, .inr (3, [.int (nI K), .int (nI P), .int (nI (K + P)), .int (nI S), .int seed, .ref wa, .int T, .ref ua, .ref sa])), (ua, .inl (cA 1, 8, .inr (.inl su))), (q_1, .inr (4, [.ref ra_3, .ref va_4, .int (nI 0), .long 0, .long 0])), (ra_3, .inl (cA 1, 40, .inr (.inl (fun _ => 0)))), (va_4, .inl (cA 1, 40, .inr (.inl (fun _ => 0))))]) (w1 := [(q_5, .inr (1, [.long 0, .long 0, .long 0]))]) hP hD [6] [0, 1, 2, 3, 4, 5] rfl rfl (by decide) (by decide) hk1 hFc hP1 hD1
  generalize H1 = H at hP hS ⊢
  have hP : va_P (dC, dI) vwCl [(ro, .inr (2, [.ref o, .ref q_1, .null, .int 0, .null, .null, .null, .int 0, .int 0, .int 0, .int 0])), (o, .inr (3, [.int (nI K), .int (nI P), .int (nI (K + P)), .int (nI S), .int seed, .ref wa, .int T, .ref ua, .ref sa])), (ua, .inl (cA 1, 8, .inr (.inl su))), (q_1, .inr (4, [.ref ra_3, .ref va_4, .int (nI 0), .long 0, .long 0])), (ra_3, .inl (cA 1, 40, .inr (.inl (fun _ => 0)))), (va_4, .inl (cA 1, 40, .inr (.inl (fun _ => 0)))), (q_5, .inr (1, [.long 0, .long 0, .long 0]))] H := hP
  have hD : va_D A [(ro, .inr (2, [.ref o, .ref q_1, .null, .int 0, .null, .null, .null, .int 0, .int 0, .int 0, .int 0])), (o, .inr (3, [.int (nI K), .int (nI P), .int (nI (K + P)), .int (nI S), .int seed, .ref wa, .int T, .ref ua, .ref sa])), (ua, .inl (cA 1, 8, .inr (.inl su))), (q_1, .inr (4, [.ref ra_3, .ref va_4, .int (nI 0), .long 0, .long 0])), (ra_3, .inl (cA 1, 40, .inr (.inl (fun _ => 0)))), (va_4, .inl (cA 1, 40, .inr (.inl (fun _ => 0)))), (q_5, .inr (1, [.long 0, .long 0, .long 0]))] := hD
  refine va_putF (D := (dC, dI)) (ci := 2) (v := .ref q_5) (ty := .object "FountainRows$Peeling") (C := RX2) (T := TX2) (N := 11) hx hb hts inX2 tyX2 tyX2_ok nmX2 hown hK hP hD hS 0 rfl rfl 2 (by decide) hk_11 (fun _ h9 => h9) rfl hin rfl (by decide +kernel) rfl rfl (Nat.le_of_ble_eq_true rfl) dX2_init_28 (fun H locs hP hD hS => ?_)
  have hP : va_P (dC, dI) vwCl [(ro, .inr (2, [.ref o, .ref q_1, .ref q_5, .int 0, .null, .null, .null, .int 0, .int 0, .int 0, .int 0])), (o, .inr (3, [.int (nI K), .int (nI P), .int (nI (K + P)), .int (nI S), .int seed, .ref wa, .int T, .ref ua, .ref sa])), (ua, .inl (cA 1, 8, .inr (.inl su))), (q_1, .inr (4, [.ref ra_3, .ref va_4, .int (nI 0), .long 0, .long 0])), (ra_3, .inl (cA 1, 40, .inr (.inl (fun _ => 0)))), (va_4, .inl (cA 1, 40, .inr (.inl (fun _ => 0)))), (q_5, .inr (1, [.long 0, .long 0, .long 0]))] H := hP
  have hD : va_D A [(ro, .inr (2, [.ref o, .ref q_1, .ref q_5, .int 0, .null, .null, .null, .int 0, .int 0, .int 0, .int 0])), (o, .inr (3, [.int (nI K), .int (nI P), .int (nI (K + P)), .int (nI S), .int seed, .ref wa, .int T, .ref ua, .ref sa])), (ua, .inl (cA 1, 8, .inr (.inl su))), (q_1, .inr (4, [.ref ra_3, .ref va_4, .int (nI 0), .long 0, .long 0])), (ra_3, .inl (cA 1, 40, .inr (.inl (fun _ => 0)))), (va_4, .inl (cA 1, 40, .inr (.inl (fun _ => 0)))), (q_5, .inr (1, [.long 0, .long 0, .long 0]))] := hD
  refine lv_aload_n hx hb dX2_init_31 rfl (lv_at hl 0 rfl) ?_
  refine lv_bipush (v := 64) hx hb dX2_init_32 (by decide) ?_
  refine kn_newi (N' := 64) hx hb hk_12 hK hP hD hS hA (by decide) (by decide) (by decide) (Nat.le_of_ble_eq_true rfl) (Nat.le_of_ble_eq_true rfl) dX2_init_34 (fun q_7 H hP hD hS => ?_)
  have hP : va_P (dC, dI) vwCl [(ro, .inr (2, [.ref o, .ref q_1, .ref q_5, .int 0, .null, .null, .null, .int 0, .int 0, .int 0, .int 0])), (o, .inr (3, [.int (nI K), .int (nI P), .int (nI (K + P)), .int (nI S), .int seed, .ref wa, .int T, .ref ua, .ref sa])), (ua, .inl (cA 1, 8, .inr (.inl su))), (q_1, .inr (4, [.ref ra_3, .ref va_4, .int (nI 0), .long 0, .long 0])), (ra_3, .inl (cA 1, 40, .inr (.inl (fun _ => 0)))), (va_4, .inl (cA 1, 40, .inr (.inl (fun _ => 0)))), (q_5, .inr (1, [.long 0, .long 0, .long 0])), (q_7, .inl (cA 0, 64, .inl (fun _ => 0)))] H := hP
  have hD : va_D A [(ro, .inr (2, [.ref o, .ref q_1, .ref q_5, .int 0, .null, .null, .null, .int 0, .int 0, .int 0, .int 0])), (o, .inr (3, [.int (nI K), .int (nI P), .int (nI (K + P)), .int (nI S), .int seed, .ref wa, .int T, .ref ua, .ref sa])), (ua, .inl (cA 1, 8, .inr (.inl su))), (q_1, .inr (4, [.ref ra_3, .ref va_4, .int (nI 0), .long 0, .long 0])), (ra_3, .inl (cA 1, 40, .inr (.inl (fun _ => 0)))), (va_4, .inl (cA 1, 40, .inr (.inl (fun _ => 0)))), (q_5, .inr (1, [.long 0, .long 0, .long 0])), (q_7, .inl (cA 0, 64, .inl (fun _ => 0)))] := hD
  refine va_putF (D := (dC, dI)) (ci := 2) (v := .ref q_7) (ty := .array .int) (C := RX2) (T := TX2) (N := 11) hx hb hts inX2 tyX2 tyX2_ok nmX2 hown hK hP hD hS 0 rfl rfl 4 (by decide) hk_13 (fun _ h9 => h9) rfl hin rfl (by decide +kernel) rfl rfl (Nat.le_of_ble_eq_true rfl) dX2_init_36 (fun H locs hP hD hS => ?_)
  have hP : va_P (dC, dI) vwCl [(ro, .inr (2, [.ref o, .ref q_1, .ref q_5, .int 0, .ref q_7, .null, .null, .int 0, .int 0, .int 0, .int 0])), (o, .inr (3, [.int (nI K), .int (nI P), .int (nI (K + P)), .int (nI S), .int seed, .ref wa, .int T, .ref ua, .ref sa])), (ua, .inl (cA 1, 8, .inr (.inl su))), (q_1, .inr (4, [.ref ra_3, .ref va_4, .int (nI 0), .long 0, .long 0])), (ra_3, .inl (cA 1, 40, .inr (.inl (fun _ => 0)))), (va_4, .inl (cA 1, 40, .inr (.inl (fun _ => 0)))), (q_5, .inr (1, [.long 0, .long 0, .long 0])), (q_7, .inl (cA 0, 64, .inl (fun _ => 0)))] H := hP
  have hD : va_D A [(ro, .inr (2, [.ref o, .ref q_1, .ref q_5, .int 0, .ref q_7, .null, .null, .int 0, .int 0, .int 0, .int 0])), (o, .inr (3, [.int (nI K), .int (nI P), .int (nI (K + P)), .int (nI S), .int seed, .ref wa, .int T, .ref ua, .ref sa])), (ua, .inl (cA 1, 8, .inr (.inl su))), (q_1, .inr (4, [.ref ra_3, .ref va_4, .int (nI 0), .long 0, .long 0])), (ra_3, .inl (cA 1, 40, .inr (.inl (fun _ => 0)))), (va_4, .inl (cA 1, 40, .inr (.inl (fun _ => 0)))), (q_5, .inr (1, [.long 0, .long 0, .long 0])), (q_7, .inl (cA 0, 64, .inl (fun _ => 0)))] := hD
  refine lv_aload_n hx hb dX2_init_39 rfl (lv_at hl 0 rfl) ?_
  refine lv_bipush (v := 64) hx hb dX2_init_40 (by decide) ?_
  refine kn_newl (N' := 64) hx hb hk_14 hK hP hD hS hA (by decide) (by decide) (by decide) (Nat.le_of_ble_eq_true rfl) (Nat.le_of_ble_eq_true rfl) dX2_init_42 (fun q_8 H hP hD hS => ?_)
  have hP : va_P (dC, dI) vwCl [(ro, .inr (2, [.ref o, .ref q_1, .ref q_5, .int 0, .ref q_7, .null, .null, .int 0, .int 0, .int 0, .int 0])), (o, .inr (3, [.int (nI K), .int (nI P), .int (nI (K + P)), .int (nI S), .int seed, .ref wa, .int T, .ref ua, .ref sa])), (ua, .inl (cA 1, 8, .inr (.inl su))), (q_1, .inr (4, [.ref ra_3, .ref va_4, .int (nI 0), .long 0, .long 0])), (ra_3, .inl (cA 1, 40, .inr (.inl (fun _ => 0)))), (va_4, .inl (cA 1, 40, .inr (.inl (fun _ => 0)))), (q_5, .inr (1, [.long 0, .long 0, .long 0])), (q_7, .inl (cA 0, 64, .inl (fun _ => 0))), (q_8, .inl (cA 1, 64, .inr (.inl (fun _ => 0))))] H := hP
  have hD : va_D A [(ro, .inr (2, [.ref o, .ref q_1, .ref q_5, .int 0, .ref q_7, .null, .null, .int 0, .int 0, .int 0, .int 0])), (o, .inr (3, [.int (nI K), .int (nI P), .int (nI (K + P)), .int (nI S), .int seed, .ref wa, .int T, .ref ua, .ref sa])), (ua, .inl (cA 1, 8, .inr (.inl su))), (q_1, .inr (4, [.ref ra_3, .ref va_4, .int (nI 0), .long 0, .long 0])), (ra_3, .inl (cA 1, 40, .inr (.inl (fun _ => 0)))), (va_4, .inl (cA 1, 40, .inr (.inl (fun _ => 0)))), (q_5, .inr (1, [.long 0, .long 0, .long 0])), (q_7, .inl (cA 0, 64, .inl (fun _ => 0))), (q_8, .inl (cA 1, 64, .inr (.inl (fun _ => 0))))] := hD
  refine va_putF (D := (dC, dI)) (ci := 2) (v := .ref q_8) (ty := .array .long) (C := RX2) (T := TX2) (N := 11) hx hb hts inX2 tyX2 tyX2_ok nmX2 hown hK hP hD hS 0 rfl rfl 5 (by decide) hk_15 (fun _ h9 => h9) rfl hin rfl (by decide +kernel) rfl rfl (Nat.le_of_ble_eq_true rfl) dX2_init_44 (fun H locs hP hD hS => ?_)
  have hP : va_P (dC, dI) vwCl [(ro, .inr (2, [.ref o, .ref q_1, .ref q_5, .int 0, .ref q_7, .ref q_8, .null, .int 0, .int 0, .int 0, .int 0])), (o, .inr (3, [.int (nI K), .int (nI P), .int (nI (K + P)), .int (nI S), .int seed, .ref wa, .int T, .ref ua, .ref sa])), (ua, .inl (cA 1, 8, .inr (.inl su))), (q_1, .inr (4, [.ref ra_3, .ref va_4, .int (nI 0), .long 0, .long 0])), (ra_3, .inl (cA 1, 40, .inr (.inl (fun _ => 0)))), (va_4, .inl (cA 1, 40, .inr (.inl (fun _ => 0)))), (q_5, .inr (1, [.long 0, .long 0, .long 0])), (q_7, .inl (cA 0, 64, .inl (fun _ => 0))), (q_8, .inl (cA 1, 64, .inr (.inl (fun _ => 0))))] H := hP
  have hD : va_D A [(ro, .inr (2, [.ref o, .ref q_1, .ref q_5, .int 0, .ref q_7, .ref q_8, .null, .int 0, .int 0, .int 0, .int 0])), (o, .inr (3, [.int (nI K), .int (nI P), .int (nI (K + P)), .int (nI S), .int seed, .ref wa, .int T, .ref ua, .ref sa])), (ua, .inl (cA 1, 8, .inr (.inl su))), (q_1, .inr (4, [.ref ra_3, .ref va_4, .int (nI 0), .long 0, .long 0])), (ra_3, .inl (cA 1, 40, .inr (.inl (fun _ => 0)))), (va_4, .inl (cA 1, 40, .inr (.inl (fun _ => 0)))), (q_5, .inr (1, [.long 0, .long 0, .long 0])), (q_7, .inl (cA 0, 64, .inl (fun _ => 0))), (q_8, .inl (cA 1, 64, .inr (.inl (fun _ => 0))))] := hD
  refine lv_aload_n hx hb dX2_init_47 rfl (lv_at hl 0 rfl) ?_
  refine lv_bipush (v := 72) hx hb dX2_init_48 (by decide) ?_
  refine kn_newl (N' := 72) hx hb hk_14 hK hP hD hS hA (by decide) (by decide) (by decide) (Nat.le_of_ble_eq_true rfl) (Nat.le_of_ble_eq_true rfl) dX2_init_50 (fun q_9 H hP hD hS => ?_)
  have hP : va_P (dC, dI) vwCl [(ro, .inr (2, [.ref o, .ref q_1, .ref q_5, .int 0, .ref q_7, .ref q_8, .null, .int 0, .int 0, .int 0, .int 0])), (o, .inr (3, [.int (nI K), .int (nI P), .int (nI (K + P)), .int (nI S), .int seed, .ref wa, .int T, .ref ua, .ref sa])), (ua, .inl (cA 1, 8, .inr (.inl su))), (q_1, .inr (4, [.ref ra_3, .ref va_4, .int (nI 0), .long 0, .long 0])), (ra_3, .inl (cA 1, 40, .inr (.inl (fun _ => 0)))), (va_4, .inl (cA 1, 40, .inr (.inl (fun _ => 0)))), (q_5, .inr (1, [.long 0, .long 0, .long 0])), (q_7, .inl (cA 0, 64, .inl (fun _ => 0))), (q_8, .inl (cA 1, 64, .inr (.inl (fun _ => 0)))), (q_9, .inl (cA 1, 72, .inr (.inl (fun _ => 0))))] H := hP
  have hD : va_D A [(ro, .inr (2, [.ref o, .ref q_1, .ref q_5, .int 0, .ref q_7, .ref q_8, .null, .int 0, .int 0, .int 0, .int 0])), (o, .inr (3, [.int (nI K), .int (nI P), .int (nI (K + P)), .int (nI S), .int seed, .ref wa, .int T, .ref ua, .ref sa])), (ua, .inl (cA 1, 8, .inr (.inl su))), (q_1, .inr (4, [.ref ra_3, .ref va_4, .int (nI 0), .long 0, .long 0])), (ra_3, .inl (cA 1, 40, .inr (.inl (fun _ => 0)))), (va_4, .inl (cA 1, 40, .inr (.inl (fun _ => 0)))), (q_5, .inr (1, [.long 0, .long 0, .long 0])), (q_7, .inl (cA 0, 64, .inl (fun _ => 0))), (q_8, .inl (cA 1, 64, .inr (.inl (fun _ => 0)))), (q_9, .inl (cA 1, 72, .inr (.inl (fun _ => 0))))] := hD
  refine va_putF (D := (dC, dI)) (ci := 2) (v := .ref q_9) (ty := .array .long) (C := RX2) (T := TX2) (N := 11) hx hb hts inX2 tyX2 tyX2_ok nmX2 hown hK hP hD hS 0 rfl rfl 6 (by decide) hk_16 (fun _ h9 => h9) rfl hin rfl (by decide +kernel) rfl rfl (Nat.le_of_ble_eq_true rfl) dX2_init_52 (fun H locs hP hD hS => ?_)
  have hP : va_P (dC, dI) vwCl [(ro, .inr (2, [.ref o, .ref q_1, .ref q_5, .int 0, .ref q_7, .ref q_8, .ref q_9, .int 0, .int 0, .int 0, .int 0])), (o, .inr (3, [.int (nI K), .int (nI P), .int (nI (K + P)), .int (nI S), .int seed, .ref wa, .int T, .ref ua, .ref sa])), (ua, .inl (cA 1, 8, .inr (.inl su))), (q_1, .inr (4, [.ref ra_3, .ref va_4, .int (nI 0), .long 0, .long 0])), (ra_3, .inl (cA 1, 40, .inr (.inl (fun _ => 0)))), (va_4, .inl (cA 1, 40, .inr (.inl (fun _ => 0)))), (q_5, .inr (1, [.long 0, .long 0, .long 0])), (q_7, .inl (cA 0, 64, .inl (fun _ => 0))), (q_8, .inl (cA 1, 64, .inr (.inl (fun _ => 0)))), (q_9, .inl (cA 1, 72, .inr (.inl (fun _ => 0))))] H := hP
  have hD : va_D A [(ro, .inr (2, [.ref o, .ref q_1, .ref q_5, .int 0, .ref q_7, .ref q_8, .ref q_9, .int 0, .int 0, .int 0, .int 0])), (o, .inr (3, [.int (nI K), .int (nI P), .int (nI (K + P)), .int (nI S), .int seed, .ref wa, .int T, .ref ua, .ref sa])), (ua, .inl (cA 1, 8, .inr (.inl su))), (q_1, .inr (4, [.ref ra_3, .ref va_4, .int (nI 0), .long 0, .long 0])), (ra_3, .inl (cA 1, 40, .inr (.inl (fun _ => 0)))), (va_4, .inl (cA 1, 40, .inr (.inl (fun _ => 0)))), (q_5, .inr (1, [.long 0, .long 0, .long 0])), (q_7, .inl (cA 0, 64, .inl (fun _ => 0))), (q_8, .inl (cA 1, 64, .inr (.inl (fun _ => 0)))), (q_9, .inl (cA 1, 72, .inr (.inl (fun _ => 0))))] := hD
  refine lv_aload_n hx hb dX2_init_55 rfl (lv_at hl 0 rfl) ?_
  have hPc := hP.sub (ws' := [(ro, .inr (2, [.ref o, .ref q_1, .ref q_5, .int sp_z00.2.2.2.2.2, .ref q_7, .ref q_8, .ref q_9, .int (nI sp_z00.2.2.2.2.1), .int 0, .int 0, .int 0])), (q_1, .inr (4, [.ref ra_3, .ref va_4, .int (nI sp_z00.1.2.2.1), .long sp_z00.1.2.2.2.1, .long sp_z00.1.2.2.2.2])), (ra_3, .inl (cA 1, 40, .inr (.inl sp_z00.1.1))), (va_4, .inl (cA 1, 40, .inr (.inl sp_z00.1.2.1))), (q_9, .inl (cA 1, 72, .inr (.inl sp_z00.2.2.2.1))), (o, .inr (3, [.int (nI K), .int (nI P), .int (nI (K + P)), .int (nI S), .int seed, .ref wa, .int T, .ref ua, .ref sa])), (ua, .inl (cA 1, 8, .inr (.inl su)))]) [0, 3, 4, 5, 9, 1, 2] rfl
  have hDc := hD.sub (ws' := [(ro, .inr (2, [.ref o, .ref q_1, .ref q_5, .int sp_z00.2.2.2.2.2, .ref q_7, .ref q_8, .ref q_9, .int (nI sp_z00.2.2.2.2.1), .int 0, .int 0, .int 0])), (q_1, .inr (4, [.ref ra_3, .ref va_4, .int (nI sp_z00.1.2.2.1), .long sp_z00.1.2.2.2.1, .long sp_z00.1.2.2.2.2])), (ra_3, .inl (cA 1, 40, .inr (.inl sp_z00.1.1))), (va_4, .inl (cA 1, 40, .inr (.inl sp_z00.1.2.1))), (q_9, .inl (cA 1, 72, .inr (.inl sp_z00.2.2.2.1))), (o, .inr (3, [.int (nI K), .int (nI P), .int (nI (K + P)), .int (nI S), .int seed, .ref wa, .int T, .ref ua, .ref sa])), (ua, .inl (cA 1, 8, .inr (.inl su)))]) [0, 3, 4, 5, 9, 1, 2] (by decide) rfl
  have hFc := va_free (wc := [(ro, .inr (2, [.ref o, .ref q_1, .ref q_5, .int sp_z00.2.2.2.2.2, .ref q_7, .ref q_8, .ref q_9, .int (nI sp_z00.2.2.2.2.1), .int 0, .int 0, .int 0])), (q_1, .inr (4, [.ref ra_3, .ref va_4, .int (nI sp_z00.1.2.2.1), .long sp_z00.1.2.2.2.1, .long sp_z00.1.2.2.2.2])), (ra_3, .inl (cA 1, 40, .inr (.inl sp_z00.1.1))), (va_4, .inl (cA 1, 40, .inr (.inl sp_z00.1.2.1))), (q_9, .inl (cA 1, 72, .inr (.inl sp_z00.2.2.2.1))), (o, .inr (3, [.int (nI K), .int (nI P), .int (nI (K + P)), .int (nI S), .int seed, .ref wa, .int T, .ref ua, .ref sa])), (ua, .inl (cA 1, 8, .inr (.inl su)))]) hD hS hA [0, 3, 4, 5, 9, 1, 2] rfl
  refine va_callv (va_runV (As := []) (rest := []) ⟨hx, hb, hml, hown, hts⟩ (c_Receiver_startAnew l dC dI cA H.size ro q_1 ra_3 va_4 q_5 q_7 q_8 q_9 o wa ua sa K P S seed T 0 0 0 sp_z00 su (by first | assumption | omega) (by first | assumption | omega)) (cwV 0 hts (kg_V tb_199 tb_200 tb_201 tb_144 tb_198) rfl rfl rfl (by decide +kernel) ⟨Nat.le_of_ble_eq_true rfl, Nat.le_of_ble_eq_true rfl⟩) (kpv_rw hK hN hPc hDc (ci := 2) (q0 := 0) rfl rfl rfl) rfl rfl hl.1 rfl (lv_room (Nat.le_of_ble_eq_true rfl)) dX2_init_56 ⟨Nat.le_of_ble_eq_true rfl, Nat.le_of_ble_eq_true rfl⟩) hS (fun q _ h => hFc q h) hFc (fun u9 t9 H1 locs ht9 hvm9 hr_10 hB hz1 hk1 hS => ?_)
  obtain ⟨hP1, hD1⟩ := hB
  rw [ht9] at hP1
  obtain ⟨hP, hD⟩ := va_join (wr := [(q_5, .inr (1, [.long 0, .long 0, .long 0])), (q_7, .inl (cA 0, 64, .inl (fun _ => 0))), (q_8, .inl (cA 1, 64, .inr (.inl (fun _ => 0))))]) (w1 := [(ro, .inr (2, [.ref o, .ref q_1, .ref q_5, .int 1, .ref q_7, .ref q_8, .ref q_9, .int (nI 0), .int 0, .int 0, .int 0])), (q_1, .inr (4, [.ref ra_3, .ref va_4, .int (nI ((sp_s0 K P su sp_z00.1 P).2.2.1)), .long ((sp_s0 K P su sp_z00.1 P).2.2.2.1), .long ((sp_s0 K P su sp_z00.1 P).2.2.2.2)])), (ra_3, .inl (cA 1, 40, .inr (.inl ((sp_s0 K P su sp_z00.1 P).1)))), (va_4, .inl (cA 1, 40, .inr (.inl ((sp_s0 K P su sp_z00.1 P).2.1)))), (q_9, .inl (cA 1, 72, .inr (.inl (sp_r0 K P su sp_z00.2.2.2.1 P)))), (o, .inr (3, [.int (nI K), .int (nI P), .int (nI (K + P)), .int (nI S), .int seed, .ref wa, .int T, .ref ua, .ref sa])), (ua, .inl (cA 1, 8, .inr (.inl su)))]) hP hD [0, 3, 4, 5, 9, 1, 2] [6, 7, 8] rfl rfl (by decide) (by decide) hk1 hFc hP1 hD1
  generalize H1 = H at hP hS ⊢
  have hP : va_P (dC, dI) vwCl [(q_5, .inr (1, [.long 0, .long 0, .long 0])), (q_7, .inl (cA 0, 64, .inl (fun _ => 0))), (q_8, .inl (cA 1, 64, .inr (.inl (fun _ => 0)))), (ro, .inr (2, [.ref o, .ref q_1, .ref q_5, .int 1, .ref q_7, .ref q_8, .ref q_9, .int (nI 0), .int 0, .int 0, .int 0])), (q_1, .inr (4, [.ref ra_3, .ref va_4, .int (nI ((sp_s0 K P su sp_z00.1 P).2.2.1)), .long ((sp_s0 K P su sp_z00.1 P).2.2.2.1), .long ((sp_s0 K P su sp_z00.1 P).2.2.2.2)])), (ra_3, .inl (cA 1, 40, .inr (.inl ((sp_s0 K P su sp_z00.1 P).1)))), (va_4, .inl (cA 1, 40, .inr (.inl ((sp_s0 K P su sp_z00.1 P).2.1)))), (q_9, .inl (cA 1, 72, .inr (.inl (sp_r0 K P su sp_z00.2.2.2.1 P)))), (o, .inr (3, [.int (nI K), .int (nI P), .int (nI (K + P)), .int (nI S), .int seed, .ref wa, .int T, .ref ua, .ref sa])), (ua, .inl (cA 1, 8, .inr (.inl su)))] H := hP
  have hD : va_D A [(q_5, .inr (1, [.long 0, .long 0, .long 0])), (q_7, .inl (cA 0, 64, .inl (fun _ => 0))), (q_8, .inl (cA 1, 64, .inr (.inl (fun _ => 0)))), (ro, .inr (2, [.ref o, .ref q_1, .ref q_5, .int 1, .ref q_7, .ref q_8, .ref q_9, .int (nI 0), .int 0, .int 0, .int 0])), (q_1, .inr (4, [.ref ra_3, .ref va_4, .int (nI ((sp_s0 K P su sp_z00.1 P).2.2.1)), .long ((sp_s0 K P su sp_z00.1 P).2.2.2.1), .long ((sp_s0 K P su sp_z00.1 P).2.2.2.2)])), (ra_3, .inl (cA 1, 40, .inr (.inl ((sp_s0 K P su sp_z00.1 P).1)))), (va_4, .inl (cA 1, 40, .inr (.inl ((sp_s0 K P su sp_z00.1 P).2.1)))), (q_9, .inl (cA 1, 72, .inr (.inl (sp_r0 K P su sp_z00.2.2.2.1 P)))), (o, .inr (3, [.int (nI K), .int (nI P), .int (nI (K + P)), .int (nI S), .int seed, .ref wa, .int T, .ref ua, .ref sa])), (ua, .inl (cA 1, 8, .inr (.inl su)))] := hD
  have hP9 := hP.sub (ws' := [(ro, .inr (2, [.ref o, .ref q_1, .ref q_5, .int 1, .ref q_7, .ref q_8, .ref q_9, .int (nI 0), .int 0, .int 0, .int 0])), (q_1, .inr (4, [.ref ra_3, .ref va_4, .int (nI ((sp_s0 K P su sp_z00.1 P).2.2.1)), .long ((sp_s0 K P su sp_z00.1 P).2.2.2.1), .long ((sp_s0 K P su sp_z00.1 P).2.2.2.2)])), (ra_3, .inl (cA 1, 40, .inr (.inl ((sp_s0 K P su sp_z00.1 P).1)))), (va_4, .inl (cA 1, 40, .inr (.inl ((sp_s0 K P su sp_z00.1 P).2.1)))), (q_7, .inl (cA 0, 64, .inl (fun _ => 0))), (q_8, .inl (cA 1, 64, .inr (.inl (fun _ => 0)))), (q_9, .inl (cA 1, 72, .inr (.inl (sp_r0 K P su sp_z00.2.2.2.1 P)))), (q_5, .inr (1, [.long 0, .long 0, .long 0])), (o, .inr (3, [.int (nI K), .int (nI P), .int (nI (K + P)), .int (nI S), .int seed, .ref wa, .int T, .ref ua, .ref sa])), (ua, .inl (cA 1, 8, .inr (.inl su)))]) [3, 4, 5, 6, 1, 2, 7, 0, 8, 9] rfl
  have hD9 := hD.sub (ws' := [(ro, .inr (2, [.ref o, .ref q_1, .ref q_5, .int 1, .ref q_7, .ref q_8, .ref q_9, .int (nI 0), .int 0, .int 0, .int 0])), (q_1, .inr (4, [.ref ra_3, .ref va_4, .int (nI ((sp_s0 K P su sp_z00.1 P).2.2.1)), .long ((sp_s0 K P su sp_z00.1 P).2.2.2.1), .long ((sp_s0 K P su sp_z00.1 P).2.2.2.2)])), (ra_3, .inl (cA 1, 40, .inr (.inl ((sp_s0 K P su sp_z00.1 P).1)))), (va_4, .inl (cA 1, 40, .inr (.inl ((sp_s0 K P su sp_z00.1 P).2.1)))), (q_7, .inl (cA 0, 64, .inl (fun _ => 0))), (q_8, .inl (cA 1, 64, .inr (.inl (fun _ => 0)))), (q_9, .inl (cA 1, 72, .inr (.inl (sp_r0 K P su sp_z00.2.2.2.1 P)))), (q_5, .inr (1, [.long 0, .long 0, .long 0])), (o, .inr (3, [.int (nI K), .int (nI P), .int (nI (K + P)), .int (nI S), .int seed, .ref wa, .int T, .ref ua, .ref sa])), (ua, .inl (cA 1, 8, .inr (.inl su)))]) [3, 4, 5, 6, 1, 2, 7, 0, 8, 9] (by decide) rfl
  have e9_0 : (sp_rd0 K P su sp_z00).2.2.2.2.2 = 1 := rfl
  have e9_1 : nI ((sp_rd0 K P su sp_z00).2.2.2.2.1) = nI 0 := rfl
  have e9_2 : nI (((sp_rd0 K P su sp_z00).1).2.2.1) = nI ((sp_s0 K P su sp_z00.1 P).2.2.1) := rfl
  have e9_3 : ((sp_rd0 K P su sp_z00).1).2.2.2.1 = (sp_s0 K P su sp_z00.1 P).2.2.2.1 := rfl
  have e9_4 : ((sp_rd0 K P su sp_z00).1).2.2.2.2 = (sp_s0 K P su sp_z00.1 P).2.2.2.2 := rfl
  have e9_5 : ((sp_rd0 K P su sp_z00).1).1 = (sp_s0 K P su sp_z00.1 P).1 := rfl
  have e9_6 : ((sp_rd0 K P su sp_z00).1).2.1 = (sp_s0 K P su sp_z00.1 P).2.1 := rfl
  have e9_7 : (sp_rd0 K P su sp_z00).2.1 = fun _ => 0 := rfl
  have e9_8 : (sp_rd0 K P su sp_z00).2.2.1 = fun _ => 0 := rfl
  have e9_9 : (sp_rd0 K P su sp_z00).2.2.2.1 = sp_r0 K P su sp_z00.2.2.2.1 P := rfl
  have e9 : ([(ro, .inr (2, [.ref o, .ref q_1, .ref q_5, .int ((sp_rd0 K P su sp_z00).2.2.2.2.2), .ref q_7, .ref q_8, .ref q_9, .int (nI ((sp_rd0 K P su sp_z00).2.2.2.2.1)), .int 0, .int 0, .int 0])), (q_1, .inr (4, [.ref ra_3, .ref va_4, .int (nI (((sp_rd0 K P su sp_z00).1).2.2.1)), .long (((sp_rd0 K P su sp_z00).1).2.2.2.1), .long (((sp_rd0 K P su sp_z00).1).2.2.2.2)])), (ra_3, .inl (cA 1, 40, .inr (.inl (((sp_rd0 K P su sp_z00).1).1)))), (va_4, .inl (cA 1, 40, .inr (.inl (((sp_rd0 K P su sp_z00).1).2.1)))), (q_7, .inl (cA 0, 64, .inl ((sp_rd0 K P su sp_z00).2.1))), (q_8, .inl (cA 1, 64, .inr (.inl ((sp_rd0 K P su sp_z00).2.2.1)))), (q_9, .inl (cA 1, 72, .inr (.inl ((sp_rd0 K P su sp_z00).2.2.2.1)))), (q_5, .inr (1, [.long 0, .long 0, .long 0])), (o, .inr (3, [.int (nI K), .int (nI P), .int (nI (K + P)), .int (nI S), .int seed, .ref wa, .int T, .ref ua, .ref sa])), (ua, .inl (cA 1, 8, .inr (.inl su)))] : va_W) = [(ro, .inr (2, [.ref o, .ref q_1, .ref q_5, .int 1, .ref q_7, .ref q_8, .ref q_9, .int (nI 0), .int 0, .int 0, .int 0])), (q_1, .inr (4, [.ref ra_3, .ref va_4, .int (nI ((sp_s0 K P su sp_z00.1 P).2.2.1)), .long ((sp_s0 K P su sp_z00.1 P).2.2.2.1), .long ((sp_s0 K P su sp_z00.1 P).2.2.2.2)])), (ra_3, .inl (cA 1, 40, .inr (.inl ((sp_s0 K P su sp_z00.1 P).1)))), (va_4, .inl (cA 1, 40, .inr (.inl ((sp_s0 K P su sp_z00.1 P).2.1)))), (q_7, .inl (cA 0, 64, .inl (fun _ => 0))), (q_8, .inl (cA 1, 64, .inr (.inl (fun _ => 0)))), (q_9, .inl (cA 1, 72, .inr (.inl (sp_r0 K P su sp_z00.2.2.2.1 P)))), (q_5, .inr (1, [.long 0, .long 0, .long 0])), (o, .inr (3, [.int (nI K), .int (nI P), .int (nI (K + P)), .int (nI S), .int seed, .ref wa, .int T, .ref ua, .ref sa])), (ua, .inl (cA 1, 8, .inr (.inl su)))] := by rw [e9_0, e9_1, e9_2, e9_3, e9_4, e9_5, e9_6, e9_7, e9_8, e9_9]
  exact W.vret hx hb hr (fun t9 ht9 hW9 => ⟨⟨(q_1, ra_3, va_4, q_5, q_7, q_8, q_9), rfl, trivial, by rw [ht9, e9]; exact hP9, by rw [e9]; exact hD9⟩, hS.F ht9⟩) hS.2.2 dX2_init_59
