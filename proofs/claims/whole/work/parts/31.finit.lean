set_option maxHeartbeats 4000000 in
set_option maxRecDepth 100000 in
theorem c_F_init (l : Launch) (dC : Nat → ClassId) (dI : Nat → Nat → Nat) (cA : Nat → ClassId) (sz : Nat) (fo : Nat) (t0 : Nat)  : Met l yX5_init (kw_X5_init) ({ frames := 2, cells := 7, slots := 687, locals := 35 }) (va_Pc [.ref fo] (fun U => kRW dC dI cA [(fo, .inr (5, [.null, .null, .null, .int 0, .null, .int 0, .null]))] sz U ∧ kST t0 (va_A [(fo, .inr (5, [.null, .null, .null, .int 0, .null, .int 0, .null]))] sz) U)) (va_Qv (fun (u : Nat × Nat × Nat × Nat × Nat × Nat × Nat) => True ∧ t0 = t0) (fun (u : Nat × Nat × Nat × Nat × Nat × Nat × Nat) t => kB dC dI (va_A [(fo, .inr (5, [.null, .null, .null, .int 0, .null, .int 0, .null]))] sz) [(fo, .inr (5, [.ref u.1, .ref u.2.1, .ref u.2.2.1, .int (nI 0), .ref u.2.2.2.1, .int (-1), .ref u.2.2.2.2.2.1])), (u.1, .inl (cA 0, 12, .inl (va_cpy sp_w0 (fun _ => 0) 0 0 12))), (u.2.1, .inl (cA 2, 4, .inr (.inr (.inr (.inr (fun _ => none)))))), (u.2.2.1, .inl (cA 3, 4, .inr (.inr (.inr (.inr (fun _ => none)))))), (u.2.2.2.1, .inr (0, [.ref u.2.2.2.2.1, .int (nI 0)])), (u.2.2.2.2.1, .inl (cA 0, 12, .inl (fun _ => 0))), (u.2.2.2.2.2.1, .inr (0, [.ref u.2.2.2.2.2.2, .int (nI 0)])), (u.2.2.2.2.2.2, .inl (cA 0, 651, .inl (fun _ => 0)))] t) (va_A [(fo, .inr (5, [.null, .null, .null, .int 0, .null, .int 0, .null]))] sz)) 7 687 (va_A [(fo, .inr (5, [.null, .null, .null, .int 0, .null, .int 0, .null]))] sz) := by
  refine Met.ofW (cc := cX5_init) (maxL := 1) (ret := none) (by decide) rfl ?_
  intro p e s m args below meth c s₁ B hml hv
  obtain ⟨rfl, ⟨hsz, hP, hK, hN, hD0⟩, hX0⟩ := hv
  have hx := B.exec
  have hb := B.bytes
  have hr := B.returns
  have hts0 := atoms_spec (ws := (kw_X5_init)) B.pre
  have hts : ∀ w ∈ TB, w.before _ s = true := fun w h => hts0 w (List.mem_cons_of_mem _ h)
  have hown : s.vm.findClass RX5 = some m.cls := findClass_of_methodNamed B.named
  have hlocks := B.notSynchronized
  have hin : meth.name = "<init>" := (name_of_methodNamed B.named B.method).1
  subst hsz
  have hD := hD0.self (sz := s.heap.size)
  generalize hAe : va_A [(fo, .inr (5, [.null, .null, .null, .int 0, .null, .int 0, .null]))] s.heap.size = A at hD hX0 ⊢
  have hA : ∀ q : Nat, s.heap.size ≤ q → A q := fun q h => by rw [← hAe]; exact Or.inr h
  have hS : va_S A s.heap s.heap [] := va_S.rf
  have hk_0 := hts (.methodLink RX5 3 objectInit) tb_446
  have hk_1 := hts (.instanceMethod objectInit) tb_31
  have hk_2 := hts (.code objectInit ⟨#[0xb1]⟩ 1 none) tb_32
  have hk_3 := hts (.arrayClass .int) tb_37
  have hk_4 := hts (.fieldLink RX5 9 "FountainRows" "weights" "[I") tb_227
  have hk_5 := hts (.fieldLink RX5 13 "FountainRows" "FIRST_WEIGHTS" "[I") tb_447
  have hk_6 := hts (.methodLink RX5 16 arraycopyName) tb_448
  have hk_7 := hts (.native arraycopyName) tb_212
  have hk_8 := hts (.static arraycopyName) tb_213
  have hk_9 := hts (.initialized "java/lang/System") tb_214
  have hk_10 := hts (.classLink RX5 22 RX3) tb_303
  have hk_11 := hts (.fieldLink RX5 24 "FountainRows" "sources" "[LFountainRows$Source;") tb_225
  have hk_12 := hts (.classLink RX5 28 RX2) tb_305
  have hk_13 := hts (.fieldLink RX5 30 "FountainRows" "receivers" "[LFountainRows$Receiver;") tb_226
  have hk_14 := hts (.fieldLink RX5 34 "FountainRows" "sourceCount" "I") tb_224
  have hk_15 := hts (.classLink RX5 38 RX0) tb_449
  have hk_16 := hts (.instantiable RX0 2) tb_450
  have hk_17 := hts (.initialized RX0) tb_11
  have hk_18 := hts (.fieldLink RX5 43 "FountainRows" "frameBytes" "LFountainRows$Bytes;") tb_231
  have hk_19 := hts (.fieldLink RX5 47 "FountainRows" "frameSource" "I") tb_230
  have hk_20 := hts (.fieldLink RX5 50 "FountainRows" "imageBytes" "LFountainRows$Bytes;") tb_233
  have hl := lv_entry ([.ref fo]) (n := 1) (Nat.le_of_ble_eq_true rfl)
  rw [lg_entry_eq]
  generalize (lg_sl ([.ref fo]) ++ List.replicate (1 - (lg_sl ([.ref fo])).length) Slot.unset).toArray = ls at hl ⊢
  have hl : lv_has ls 1 [(0, .ref fo)] := hl
  refine lv_aload_n hx hb dX5_init_0 rfl (lv_at hl 0 rfl) ?_
  refine W.objInit hx hb hown hk_0 hk_1 hk_2 rfl (by rw [hml]; exact hl.1) rfl dX5_init_1 (Nat.le_of_ble_eq_true rfl) (Nat.le_of_ble_eq_true rfl) ?_
  refine W.eq (g2 := F0 m 4 ls []) rfl ?_
  refine lv_aload_n hx hb dX5_init_4 rfl (lv_at hl 0 rfl) ?_
  refine lv_bipush (v := 12) hx hb dX5_init_5 (by decide) ?_
  refine kn_newi (N' := 12) hx hb hk_3 hK hP hD hS hA (by decide) (by decide) (by decide) (Nat.le_of_ble_eq_true rfl) (Nat.le_of_ble_eq_true rfl) dX5_init_7 (fun q_1 H hP hD hS => ?_)
  have hP : va_P (dC, dI) vwCl [(fo, .inr (5, [.null, .null, .null, .int 0, .null, .int 0, .null])), (q_1, .inl (cA 0, 12, .inl (fun _ => 0)))] H := hP
  have hD : va_D A [(fo, .inr (5, [.null, .null, .null, .int 0, .null, .int 0, .null])), (q_1, .inl (cA 0, 12, .inl (fun _ => 0)))] := hD
  refine va_putF (D := (dC, dI)) (ci := 5) (v := .ref q_1) (ty := .array .int) (C := RX5) (T := TX5) (N := 7) hx hb hts inX5 tyX5 tyX5_ok nmX5 hown hK hP hD hS 0 rfl rfl 0 (by decide) hk_4 (fun _ h9 => h9) rfl hin rfl (by decide +kernel) rfl rfl (Nat.le_of_ble_eq_true rfl) dX5_init_9 (fun H locs hP hD hS => ?_)
  have hP : va_P (dC, dI) vwCl [(fo, .inr (5, [.ref q_1, .null, .null, .int 0, .null, .int 0, .null])), (q_1, .inl (cA 0, 12, .inl (fun _ => 0)))] H := hP
  have hD : va_D A [(fo, .inr (5, [.ref q_1, .null, .null, .int 0, .null, .int 0, .null])), (q_1, .inl (cA 0, 12, .inl (fun _ => 0)))] := hD
  refine va_gets hx hb hX0.1 hS hown hk_5 (fun _ h9 => h9) dX5_init_12 ?_
  refine lv_iconst (v := 0) hx hb dX5_init_15 (by decide) ?_
  refine lv_aload_n hx hb dX5_init_16 rfl (lv_at hl 0 rfl) ?_
  refine va_get (D := (dC, dI)) (ci := 5) (v := .ref q_1) (C := RX5) (T := TX5) (N := 7) hx hb hts inX5 hown hK hP 0 rfl rfl 0 (by decide) hk_4 (fun _ h9 => h9) rfl dX5_init_17 ?_
  refine lv_iconst (v := 0) hx hb dX5_init_20 (by decide) ?_
  refine lv_bipush (v := 12) hx hb dX5_init_21 (by decide) ?_
  refine kc_copyt hx hb (by rw [hml]; exact hl.1.symm) hown hk_6 hk_7 hk_8 hk_9 hK hP hD hS hX0.2.1 1 0 rfl rfl (by decide) (by decide) (by decide) (by decide) (by decide) (Nat.le_of_ble_eq_true rfl) (Nat.le_of_ble_eq_true rfl) dX5_init_23 (fun H locs hP hD hS => ?_)
  have hP : va_P (dC, dI) vwCl [(fo, .inr (5, [.ref q_1, .null, .null, .int 0, .null, .int 0, .null])), (q_1, .inl (cA 0, 12, .inl (va_cpy sp_w0 (fun _ => 0) 0 0 12)))] H := hP
  have hD : va_D A [(fo, .inr (5, [.ref q_1, .null, .null, .int 0, .null, .int 0, .null])), (q_1, .inl (cA 0, 12, .inl (va_cpy sp_w0 (fun _ => 0) 0 0 12)))] := hD
  refine lv_aload_n hx hb dX5_init_26 rfl (lv_at hl 0 rfl) ?_
  refine lv_iconst (v := 4) hx hb dX5_init_27 (by decide) ?_
  refine kn_newq2 (N' := 4) hx hb hown hk_10 hX0.2.2.1 hK hP hD hS hA (by decide) (by decide) (by decide) (Nat.le_of_ble_eq_true rfl) (Nat.le_of_ble_eq_true rfl) dX5_init_28 (fun q_2 H hP hD hS => ?_)
  have hP : va_P (dC, dI) vwCl [(fo, .inr (5, [.ref q_1, .null, .null, .int 0, .null, .int 0, .null])), (q_1, .inl (cA 0, 12, .inl (va_cpy sp_w0 (fun _ => 0) 0 0 12))), (q_2, .inl (cA 2, 4, .inr (.inr (.inr (.inr (fun _ => none))))))] H := hP
  have hD : va_D A [(fo, .inr (5, [.ref q_1, .null, .null, .int 0, .null, .int 0, .null])), (q_1, .inl (cA 0, 12, .inl (va_cpy sp_w0 (fun _ => 0) 0 0 12))), (q_2, .inl (cA 2, 4, .inr (.inr (.inr (.inr (fun _ => none))))))] := hD
  refine va_putF (D := (dC, dI)) (ci := 5) (v := .ref q_2) (ty := .array (.object "FountainRows$Source")) (C := RX5) (T := TX5) (N := 7) hx hb hts inX5 tyX5 tyX5_ok nmX5 hown hK hP hD hS 0 rfl rfl 1 (by decide) hk_11 (fun _ h9 => h9) rfl hin rfl (by decide +kernel) rfl rfl (Nat.le_of_ble_eq_true rfl) dX5_init_31 (fun H locs hP hD hS => ?_)
  have hP : va_P (dC, dI) vwCl [(fo, .inr (5, [.ref q_1, .ref q_2, .null, .int 0, .null, .int 0, .null])), (q_1, .inl (cA 0, 12, .inl (va_cpy sp_w0 (fun _ => 0) 0 0 12))), (q_2, .inl (cA 2, 4, .inr (.inr (.inr (.inr (fun _ => none))))))] H := hP
  have hD : va_D A [(fo, .inr (5, [.ref q_1, .ref q_2, .null, .int 0, .null, .int 0, .null])), (q_1, .inl (cA 0, 12, .inl (va_cpy sp_w0 (fun _ => 0) 0 0 12))), (q_2, .inl (cA 2, 4, .inr (.inr (.inr (.inr (fun _ => none))))))] := hD
  refine lv_aload_n hx hb dX5_init_34 rfl (lv_at hl 0 rfl) ?_
  refine lv_iconst (v := 4) hx hb dX5_init_35 (by decide) ?_
  refine kn_newq3 (N' := 4) hx hb hown hk_12 hX0.2.2.2 hK hP hD hS hA (by decide) (by decide) (by decide) (Nat.le_of_ble_eq_true rfl) (Nat.le_of_ble_eq_true rfl) dX5_init_36 (fun q_3 H hP hD hS => ?_)
  have hP : va_P (dC, dI) vwCl [(fo, .inr (5, [.ref q_1, .ref q_2, .null, .int 0, .null, .int 0, .null])), (q_1, .inl (cA 0, 12, .inl (va_cpy sp_w0 (fun _ => 0) 0 0 12))), (q_2, .inl (cA 2, 4, .inr (.inr (.inr (.inr (fun _ => none)))))), (q_3, .inl (cA 3, 4, .inr (.inr (.inr (.inr (fun _ => none))))))] H := hP
  have hD : va_D A [(fo, .inr (5, [.ref q_1, .ref q_2, .null, .int 0, .null, .int 0, .null])), (q_1, .inl (cA 0, 12, .inl (va_cpy sp_w0 (fun _ => 0) 0 0 12))), (q_2, .inl (cA 2, 4, .inr (.inr (.inr (.inr (fun _ => none)))))), (q_3, .inl (cA 3, 4, .inr (.inr (.inr (.inr (fun _ => none))))))] := hD
  refine va_putF (D := (dC, dI)) (ci := 5) (v := .ref q_3) (ty := .array (.object "FountainRows$Receiver")) (C := RX5) (T := TX5) (N := 7) hx hb hts inX5 tyX5 tyX5_ok nmX5 hown hK hP hD hS 0 rfl rfl 2 (by decide) hk_13 (fun _ h9 => h9) rfl hin rfl (by decide +kernel) rfl rfl (Nat.le_of_ble_eq_true rfl) dX5_init_39 (fun H locs hP hD hS => ?_)
  have hP : va_P (dC, dI) vwCl [(fo, .inr (5, [.ref q_1, .ref q_2, .ref q_3, .int 0, .null, .int 0, .null])), (q_1, .inl (cA 0, 12, .inl (va_cpy sp_w0 (fun _ => 0) 0 0 12))), (q_2, .inl (cA 2, 4, .inr (.inr (.inr (.inr (fun _ => none)))))), (q_3, .inl (cA 3, 4, .inr (.inr (.inr (.inr (fun _ => none))))))] H := hP
  have hD : va_D A [(fo, .inr (5, [.ref q_1, .ref q_2, .ref q_3, .int 0, .null, .int 0, .null])), (q_1, .inl (cA 0, 12, .inl (va_cpy sp_w0 (fun _ => 0) 0 0 12))), (q_2, .inl (cA 2, 4, .inr (.inr (.inr (.inr (fun _ => none)))))), (q_3, .inl (cA 3, 4, .inr (.inr (.inr (.inr (fun _ => none))))))] := hD
  refine lv_aload_n hx hb dX5_init_42 rfl (lv_at hl 0 rfl) ?_
  refine lv_iconst (v := 0) hx hb dX5_init_43 (by decide) ?_
  refine va_put (D := (dC, dI)) (ci := 5) (v := .int 0) (ty := .int) (C := RX5) (T := TX5) (N := 7) hx hb hts inX5 tyX5 tyX5_ok nmX5 hown hK hP hD hS 0 rfl rfl 3 (by decide) hk_14 (fun _ h9 => h9) rfl (by decide +kernel) rfl rfl (Nat.le_of_ble_eq_true rfl) dX5_init_44 (fun H locs hP hD hS => ?_)
  have hP : va_P (dC, dI) vwCl [(fo, .inr (5, [.ref q_1, .ref q_2, .ref q_3, .int 0, .null, .int 0, .null])), (q_1, .inl (cA 0, 12, .inl (va_cpy sp_w0 (fun _ => 0) 0 0 12))), (q_2, .inl (cA 2, 4, .inr (.inr (.inr (.inr (fun _ => none)))))), (q_3, .inl (cA 3, 4, .inr (.inr (.inr (.inr (fun _ => none))))))] H := hP
  have hD : va_D A [(fo, .inr (5, [.ref q_1, .ref q_2, .ref q_3, .int 0, .null, .int 0, .null])), (q_1, .inl (cA 0, 12, .inl (va_cpy sp_w0 (fun _ => 0) 0 0 12))), (q_2, .inl (cA 2, 4, .inr (.inr (.inr (.inr (fun _ => none)))))), (q_3, .inl (cA 3, 4, .inr (.inr (.inr (.inr (fun _ => none))))))] := hD
  refine lv_aload_n hx hb dX5_init_47 rfl (lv_at hl 0 rfl) ?_
  refine va_new (D := (dC, dI)) (ci := 0) (fs := [.null, .int 0]) (C := RX0) (T := TX0) (N := 2) hx hb hts inX0 tyX0 tyX0_ok hown hk_15 hk_16 hk_17 hK hP hD hS hA rfl (fun j hj => by rcases (show j = 0 ∨ j = 1 by omega) with rfl | rfl <;> rfl) (Nat.le_of_ble_eq_true rfl) (Nat.le_of_ble_eq_true rfl) dX5_init_48 (fun q_4 H hP hD hS => ?_)
  have hP : va_P (dC, dI) vwCl [(fo, .inr (5, [.ref q_1, .ref q_2, .ref q_3, .int 0, .null, .int 0, .null])), (q_1, .inl (cA 0, 12, .inl (va_cpy sp_w0 (fun _ => 0) 0 0 12))), (q_2, .inl (cA 2, 4, .inr (.inr (.inr (.inr (fun _ => none)))))), (q_3, .inl (cA 3, 4, .inr (.inr (.inr (.inr (fun _ => none)))))), (q_4, .inr (0, [.null, .int 0]))] H := hP
  have hD : va_D A [(fo, .inr (5, [.ref q_1, .ref q_2, .ref q_3, .int 0, .null, .int 0, .null])), (q_1, .inl (cA 0, 12, .inl (va_cpy sp_w0 (fun _ => 0) 0 0 12))), (q_2, .inl (cA 2, 4, .inr (.inr (.inr (.inr (fun _ => none)))))), (q_3, .inl (cA 3, 4, .inr (.inr (.inr (.inr (fun _ => none)))))), (q_4, .inr (0, [.null, .int 0]))] := hD
  refine lv_dup hx hb dX5_init_51 rfl ?_
  refine lv_bipush (v := 12) hx hb dX5_init_52 (by decide) ?_
  have hPc := hP.sub (ws' := [(q_4, .inr (0, [.null, .int 0]))]) [4] rfl
  have hDc := hD.sub (ws' := [(q_4, .inr (0, [.null, .int 0]))]) [4] (by decide) rfl
  have hFc := va_free (wc := [(q_4, .inr (0, [.null, .int 0]))]) hD hS hA [4] rfl
  refine va_callv (va_runI (As := [.int 12]) (rest := [.ref q_4, .ref fo]) ⟨hx, hb, hml, hown, hts⟩ (c_Bytes_init12 l dC dI cA H.size q_4 0) (cwI 1 hts (kg_I tb_443) rfl rfl rfl (hts _ tb_11) (hts _ tb_444) (hts _ tb_445) rfl (by decide +kernel) ⟨Nat.le_of_ble_eq_true rfl, Nat.le_of_ble_eq_true rfl⟩) (kps_rw hK hN hPc hDc) rfl rfl hl.1 rfl (lv_room (Nat.le_of_ble_eq_true rfl)) dX5_init_54 ⟨Nat.le_of_ble_eq_true rfl, Nat.le_of_ble_eq_true rfl⟩) hS (fun q _ h => hFc q h) hFc (fun u9 t9 H1 locs ht9 hvm9 hr_5 hB hz1 hk1 hS => ?_)
  obtain ⟨ca_6, rfl⟩ : ∃ z, z = u9 := ⟨_, rfl⟩
  obtain ⟨hP1, hD1⟩ := hB
  rw [ht9] at hP1
  obtain ⟨hP, hD⟩ := va_join (wr := [(fo, .inr (5, [.ref q_1, .ref q_2, .ref q_3, .int 0, .null, .int 0, .null])), (q_1, .inl (cA 0, 12, .inl (va_cpy sp_w0 (fun _ => 0) 0 0 12))), (q_2, .inl (cA 2, 4, .inr (.inr (.inr (.inr (fun _ => none)))))), (q_3, .inl (cA 3, 4, .inr (.inr (.inr (.inr (fun _ => none))))))]) (w1 := [(q_4, .inr (0, [.ref ca_6, .int (nI 0)])), (ca_6, .inl (cA 0, 12, .inl (fun _ => 0)))]) hP hD [4] [0, 1, 2, 3] rfl rfl (by decide) (by decide) hk1 hFc hP1 hD1
  generalize H1 = H at hP hS ⊢
  have hP : va_P (dC, dI) vwCl [(fo, .inr (5, [.ref q_1, .ref q_2, .ref q_3, .int 0, .null, .int 0, .null])), (q_1, .inl (cA 0, 12, .inl (va_cpy sp_w0 (fun _ => 0) 0 0 12))), (q_2, .inl (cA 2, 4, .inr (.inr (.inr (.inr (fun _ => none)))))), (q_3, .inl (cA 3, 4, .inr (.inr (.inr (.inr (fun _ => none)))))), (q_4, .inr (0, [.ref ca_6, .int (nI 0)])), (ca_6, .inl (cA 0, 12, .inl (fun _ => 0)))] H := hP
  have hD : va_D A [(fo, .inr (5, [.ref q_1, .ref q_2, .ref q_3, .int 0, .null, .int 0, .null])), (q_1, .inl (cA 0, 12, .inl (va_cpy sp_w0 (fun _ => 0) 0 0 12))), (q_2, .inl (cA 2, 4, .inr (.inr (.inr (.inr (fun _ => none)))))), (q_3, .inl (cA 3, 4, .inr (.inr (.inr (.inr (fun _ => none)))))), (q_4, .inr (0, [.ref ca_6, .int (nI 0)])), (ca_6, .inl (cA 0, 12, .inl (fun _ => 0)))] := hD
  refine W.widen (k := 5) (n := 34) (by omega) (by omega) ?_
  refine va_putF (D := (dC, dI)) (ci := 5) (v := .ref q_4) (ty := .object "FountainRows$Bytes") (C := RX5) (T := TX5) (N := 7) hx hb hts inX5 tyX5 tyX5_ok nmX5 hown hK hP hD hS 0 rfl rfl 4 (by decide) hk_18 (fun _ h9 => h9) rfl hin rfl (by decide +kernel) rfl rfl (Nat.le_of_ble_eq_true rfl) dX5_init_57 (fun H locs hP hD hS => ?_)
  have hP : va_P (dC, dI) vwCl [(fo, .inr (5, [.ref q_1, .ref q_2, .ref q_3, .int 0, .ref q_4, .int 0, .null])), (q_1, .inl (cA 0, 12, .inl (va_cpy sp_w0 (fun _ => 0) 0 0 12))), (q_2, .inl (cA 2, 4, .inr (.inr (.inr (.inr (fun _ => none)))))), (q_3, .inl (cA 3, 4, .inr (.inr (.inr (.inr (fun _ => none)))))), (q_4, .inr (0, [.ref ca_6, .int (nI 0)])), (ca_6, .inl (cA 0, 12, .inl (fun _ => 0)))] H := hP
  have hD : va_D A [(fo, .inr (5, [.ref q_1, .ref q_2, .ref q_3, .int 0, .ref q_4, .int 0, .null])), (q_1, .inl (cA 0, 12, .inl (va_cpy sp_w0 (fun _ => 0) 0 0 12))), (q_2, .inl (cA 2, 4, .inr (.inr (.inr (.inr (fun _ => none)))))), (q_3, .inl (cA 3, 4, .inr (.inr (.inr (.inr (fun _ => none)))))), (q_4, .inr (0, [.ref ca_6, .int (nI 0)])), (ca_6, .inl (cA 0, 12, .inl (fun _ => 0)))] := hD
  refine lv_aload_n hx hb dX5_init_60 rfl (lv_at hl 0 rfl) ?_
  refine lv_iconst (v := (-1)) hx hb dX5_init_61 (by decide) ?_
  refine va_put (D := (dC, dI)) (ci := 5) (v := .int (-1)) (ty := .int) (C := RX5) (T := TX5) (N := 7) hx hb hts inX5 tyX5 tyX5_ok nmX5 hown hK hP hD hS 0 rfl rfl 5 (by decide) hk_19 (fun _ h9 => h9) rfl (by decide +kernel) rfl rfl (Nat.le_of_ble_eq_true rfl) dX5_init_62 (fun H locs hP hD hS => ?_)
  have hP : va_P (dC, dI) vwCl [(fo, .inr (5, [.ref q_1, .ref q_2, .ref q_3, .int 0, .ref q_4, .int (-1), .null])), (q_1, .inl (cA 0, 12, .inl (va_cpy sp_w0 (fun _ => 0) 0 0 12))), (q_2, .inl (cA 2, 4, .inr (.inr (.inr (.inr (fun _ => none)))))), (q_3, .inl (cA 3, 4, .inr (.inr (.inr (.inr (fun _ => none)))))), (q_4, .inr (0, [.ref ca_6, .int (nI 0)])), (ca_6, .inl (cA 0, 12, .inl (fun _ => 0)))] H := hP
  have hD : va_D A [(fo, .inr (5, [.ref q_1, .ref q_2, .ref q_3, .int 0, .ref q_4, .int (-1), .null])), (q_1, .inl (cA 0, 12, .inl (va_cpy sp_w0 (fun _ => 0) 0 0 12))), (q_2, .inl (cA 2, 4, .inr (.inr (.inr (.inr (fun _ => none)))))), (q_3, .inl (cA 3, 4, .inr (.inr (.inr (.inr (fun _ => none)))))), (q_4, .inr (0, [.ref ca_6, .int (nI 0)])), (ca_6, .inl (cA 0, 12, .inl (fun _ => 0)))] := hD
  refine lv_aload_n hx hb dX5_init_65 rfl (lv_at hl 0 rfl) ?_
  refine va_new (D := (dC, dI)) (ci := 0) (fs := [.null, .int 0]) (C := RX0) (T := TX0) (N := 2) hx hb hts inX0 tyX0 tyX0_ok hown hk_15 hk_16 hk_17 hK hP hD hS hA rfl (fun j hj => by rcases (show j = 0 ∨ j = 1 by omega) with rfl | rfl <;> rfl) (Nat.le_of_ble_eq_true rfl) (Nat.le_of_ble_eq_true rfl) dX5_init_66 (fun q_7 H hP hD hS => ?_)
  have hP : va_P (dC, dI) vwCl [(fo, .inr (5, [.ref q_1, .ref q_2, .ref q_3, .int 0, .ref q_4, .int (-1), .null])), (q_1, .inl (cA 0, 12, .inl (va_cpy sp_w0 (fun _ => 0) 0 0 12))), (q_2, .inl (cA 2, 4, .inr (.inr (.inr (.inr (fun _ => none)))))), (q_3, .inl (cA 3, 4, .inr (.inr (.inr (.inr (fun _ => none)))))), (q_4, .inr (0, [.ref ca_6, .int (nI 0)])), (ca_6, .inl (cA 0, 12, .inl (fun _ => 0))), (q_7, .inr (0, [.null, .int 0]))] H := hP
  have hD : va_D A [(fo, .inr (5, [.ref q_1, .ref q_2, .ref q_3, .int 0, .ref q_4, .int (-1), .null])), (q_1, .inl (cA 0, 12, .inl (va_cpy sp_w0 (fun _ => 0) 0 0 12))), (q_2, .inl (cA 2, 4, .inr (.inr (.inr (.inr (fun _ => none)))))), (q_3, .inl (cA 3, 4, .inr (.inr (.inr (.inr (fun _ => none)))))), (q_4, .inr (0, [.ref ca_6, .int (nI 0)])), (ca_6, .inl (cA 0, 12, .inl (fun _ => 0))), (q_7, .inr (0, [.null, .int 0]))] := hD
  refine lv_dup hx hb dX5_init_69 rfl ?_
  refine lv_sipush (v := 651) hx hb dX5_init_70 (by decide) ?_
  have hPc := hP.sub (ws' := [(q_7, .inr (0, [.null, .int 0]))]) [6] rfl
  have hDc := hD.sub (ws' := [(q_7, .inr (0, [.null, .int 0]))]) [6] (by decide) rfl
  have hFc := va_free (wc := [(q_7, .inr (0, [.null, .int 0]))]) hD hS hA [6] rfl
  refine va_callv (va_runI (As := [.int 651]) (rest := [.ref q_7, .ref fo]) ⟨hx, hb, hml, hown, hts⟩ (c_Bytes_init651 l dC dI cA H.size q_7 0) (cwI 1 hts (kg_I tb_443) rfl rfl rfl (hts _ tb_11) (hts _ tb_444) (hts _ tb_445) rfl (by decide +kernel) ⟨Nat.le_of_ble_eq_true rfl, Nat.le_of_ble_eq_true rfl⟩) (kps_rw hK hN hPc hDc) rfl rfl hl.1 rfl (lv_room (Nat.le_of_ble_eq_true rfl)) dX5_init_73 ⟨Nat.le_of_ble_eq_true rfl, Nat.le_of_ble_eq_true rfl⟩) hS (fun q _ h => hFc q h) hFc (fun u9 t9 H1 locs ht9 hvm9 hr_8 hB hz1 hk1 hS => ?_)
  obtain ⟨ca_9, rfl⟩ : ∃ z, z = u9 := ⟨_, rfl⟩
  obtain ⟨hP1, hD1⟩ := hB
  rw [ht9] at hP1
  obtain ⟨hP, hD⟩ := va_join (wr := [(fo, .inr (5, [.ref q_1, .ref q_2, .ref q_3, .int 0, .ref q_4, .int (-1), .null])), (q_1, .inl (cA 0, 12, .inl (va_cpy sp_w0 (fun _ => 0) 0 0 12))), (q_2, .inl (cA 2, 4, .inr (.inr (.inr (.inr (fun _ => none)))))), (q_3, .inl (cA 3, 4, .inr (.inr (.inr (.inr (fun _ => none)))))), (q_4, .inr (0, [.ref ca_6, .int (nI 0)])), (ca_6, .inl (cA 0, 12, .inl (fun _ => 0)))]) (w1 := [(q_7, .inr (0, [.ref ca_9, .int (nI 0)])), (ca_9, .inl (cA 0, 651, .inl (fun _ => 0)))]) hP hD [6] [0, 1, 2, 3, 4, 5] rfl rfl (by decide) (by decide) hk1 hFc hP1 hD1
  generalize H1 = H at hP hS ⊢
  have hP : va_P (dC, dI) vwCl [(fo, .inr (5, [.ref q_1, .ref q_2, .ref q_3, .int 0, .ref q_4, .int (-1), .null])), (q_1, .inl (cA 0, 12, .inl (va_cpy sp_w0 (fun _ => 0) 0 0 12))), (q_2, .inl (cA 2, 4, .inr (.inr (.inr (.inr (fun _ => none)))))), (q_3, .inl (cA 3, 4, .inr (.inr (.inr (.inr (fun _ => none)))))), (q_4, .inr (0, [.ref ca_6, .int (nI 0)])), (ca_6, .inl (cA 0, 12, .inl (fun _ => 0))), (q_7, .inr (0, [.ref ca_9, .int (nI 0)])), (ca_9, .inl (cA 0, 651, .inl (fun _ => 0)))] H := hP
  have hD : va_D A [(fo, .inr (5, [.ref q_1, .ref q_2, .ref q_3, .int 0, .ref q_4, .int (-1), .null])), (q_1, .inl (cA 0, 12, .inl (va_cpy sp_w0 (fun _ => 0) 0 0 12))), (q_2, .inl (cA 2, 4, .inr (.inr (.inr (.inr (fun _ => none)))))), (q_3, .inl (cA 3, 4, .inr (.inr (.inr (.inr (fun _ => none)))))), (q_4, .inr (0, [.ref ca_6, .int (nI 0)])), (ca_6, .inl (cA 0, 12, .inl (fun _ => 0))), (q_7, .inr (0, [.ref ca_9, .int (nI 0)])), (ca_9, .inl (cA 0, 651, .inl (fun _ => 0)))] := hD
  refine W.widen (k := 7) (n := 687) (by omega) (by omega) ?_
  refine va_putF (D := (dC, dI)) (ci := 5) (v := .ref q_7) (ty := .object "FountainRows$Bytes") (C := RX5) (T := TX5) (N := 7) hx hb hts inX5 tyX5 tyX5_ok nmX5 hown hK hP hD hS 0 rfl rfl 6 (by decide) hk_20 (fun _ h9 => h9) rfl hin rfl (by decide +kernel) rfl rfl (Nat.le_of_ble_eq_true rfl) dX5_init_76 (fun H locs hP hD hS => ?_)
  have hP : va_P (dC, dI) vwCl [(fo, .inr (5, [.ref q_1, .ref q_2, .ref q_3, .int 0, .ref q_4, .int (-1), .ref q_7])), (q_1, .inl (cA 0, 12, .inl (va_cpy sp_w0 (fun _ => 0) 0 0 12))), (q_2, .inl (cA 2, 4, .inr (.inr (.inr (.inr (fun _ => none)))))), (q_3, .inl (cA 3, 4, .inr (.inr (.inr (.inr (fun _ => none)))))), (q_4, .inr (0, [.ref ca_6, .int (nI 0)])), (ca_6, .inl (cA 0, 12, .inl (fun _ => 0))), (q_7, .inr (0, [.ref ca_9, .int (nI 0)])), (ca_9, .inl (cA 0, 651, .inl (fun _ => 0)))] H := hP
  have hD : va_D A [(fo, .inr (5, [.ref q_1, .ref q_2, .ref q_3, .int 0, .ref q_4, .int (-1), .ref q_7])), (q_1, .inl (cA 0, 12, .inl (va_cpy sp_w0 (fun _ => 0) 0 0 12))), (q_2, .inl (cA 2, 4, .inr (.inr (.inr (.inr (fun _ => none)))))), (q_3, .inl (cA 3, 4, .inr (.inr (.inr (.inr (fun _ => none)))))), (q_4, .inr (0, [.ref ca_6, .int (nI 0)])), (ca_6, .inl (cA 0, 12, .inl (fun _ => 0))), (q_7, .inr (0, [.ref ca_9, .int (nI 0)])), (ca_9, .inl (cA 0, 651, .inl (fun _ => 0)))] := hD
  have hP9 := hP.sub (ws' := [(fo, .inr (5, [.ref q_1, .ref q_2, .ref q_3, .int 0, .ref q_4, .int (-1), .ref q_7])), (q_1, .inl (cA 0, 12, .inl (va_cpy sp_w0 (fun _ => 0) 0 0 12))), (q_2, .inl (cA 2, 4, .inr (.inr (.inr (.inr (fun _ => none)))))), (q_3, .inl (cA 3, 4, .inr (.inr (.inr (.inr (fun _ => none)))))), (q_4, .inr (0, [.ref ca_6, .int (nI 0)])), (ca_6, .inl (cA 0, 12, .inl (fun _ => 0))), (q_7, .inr (0, [.ref ca_9, .int (nI 0)])), (ca_9, .inl (cA 0, 651, .inl (fun _ => 0)))]) [0, 1, 2, 3, 4, 5, 6, 7] rfl
  have hD9 := hD.sub (ws' := [(fo, .inr (5, [.ref q_1, .ref q_2, .ref q_3, .int 0, .ref q_4, .int (-1), .ref q_7])), (q_1, .inl (cA 0, 12, .inl (va_cpy sp_w0 (fun _ => 0) 0 0 12))), (q_2, .inl (cA 2, 4, .inr (.inr (.inr (.inr (fun _ => none)))))), (q_3, .inl (cA 3, 4, .inr (.inr (.inr (.inr (fun _ => none)))))), (q_4, .inr (0, [.ref ca_6, .int (nI 0)])), (ca_6, .inl (cA 0, 12, .inl (fun _ => 0))), (q_7, .inr (0, [.ref ca_9, .int (nI 0)])), (ca_9, .inl (cA 0, 651, .inl (fun _ => 0)))]) [0, 1, 2, 3, 4, 5, 6, 7] (by decide) rfl
  have e9_0 : nI 0 = 0 := rfl
  have e9 : ([(fo, .inr (5, [.ref q_1, .ref q_2, .ref q_3, .int (nI 0), .ref q_4, .int (-1), .ref q_7])), (q_1, .inl (cA 0, 12, .inl (va_cpy sp_w0 (fun _ => 0) 0 0 12))), (q_2, .inl (cA 2, 4, .inr (.inr (.inr (.inr (fun _ => none)))))), (q_3, .inl (cA 3, 4, .inr (.inr (.inr (.inr (fun _ => none)))))), (q_4, .inr (0, [.ref ca_6, .int (nI 0)])), (ca_6, .inl (cA 0, 12, .inl (fun _ => 0))), (q_7, .inr (0, [.ref ca_9, .int (nI 0)])), (ca_9, .inl (cA 0, 651, .inl (fun _ => 0)))] : va_W) = [(fo, .inr (5, [.ref q_1, .ref q_2, .ref q_3, .int 0, .ref q_4, .int (-1), .ref q_7])), (q_1, .inl (cA 0, 12, .inl (va_cpy sp_w0 (fun _ => 0) 0 0 12))), (q_2, .inl (cA 2, 4, .inr (.inr (.inr (.inr (fun _ => none)))))), (q_3, .inl (cA 3, 4, .inr (.inr (.inr (.inr (fun _ => none)))))), (q_4, .inr (0, [.ref ca_6, .int (nI 0)])), (ca_6, .inl (cA 0, 12, .inl (fun _ => 0))), (q_7, .inr (0, [.ref ca_9, .int (nI 0)])), (ca_9, .inl (cA 0, 651, .inl (fun _ => 0)))] := by rw [e9_0]
  exact W.vret hx hb hr (fun t9 ht9 hW9 => ⟨⟨(q_1, q_2, q_3, q_4, ca_6, q_7, ca_9), rfl, ⟨trivial, rfl⟩, by rw [ht9, e9]; exact hP9, by rw [e9]; exact hD9⟩, hS.F ht9⟩) hS.2.2 dX5_init_79
