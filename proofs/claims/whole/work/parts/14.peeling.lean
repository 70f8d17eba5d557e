set_option maxHeartbeats 4000000 in
set_option maxRecDepth 100000 in
theorem c_Peeling_countRowsWith (l : Launch) (dC : Nat → ClassId) (dI : Nat → Nat → Nat) (cA : Nat → ClassId) (i : Int32) (ra : Nat) (n : Nat) (rows : Nat → Int64) (rc : Nat) (hrc : rc ≤ n) (hn : n < 2 ^ 30) : Met l yX1_countRowsWith (kw_X1_countRowsWith) ({ frames := 1, cells := 0, slots := 0, locals := 22 }) (va_Pc [.int i, .ref ra, .int (nI rc)] (fun U => kRO dC dI cA [(ra, .inl (cA 1, n, .inr (.inl rows)))] U)) (vp_Si (fun r => r = nI (sp_crw rows i rc))) 0 0 (fun _ => False) := by
  refine Met.ofW (cc := cX1_countRowsWith) (maxL := 5) (ret := (some .int)) (by decide) rfl ?_
  intro p e s m args below meth c s₁ B hml hv
  obtain ⟨rfl, hP, hK, hN⟩ := hv
  have hx := B.exec
  have hb := B.bytes
  have hr := B.returns
  have hts0 := atoms_spec (ws := (kw_X1_countRowsWith)) B.pre
  have hts : ∀ w ∈ TB, w.before _ s = true := fun w h => hts0 w (List.mem_cons_of_mem _ h)
  have hown : s.vm.findClass RX1 = some m.cls := findClass_of_methodNamed B.named
  have hlocks := B.notSynchronized
  have hl := lv_entry ([.int i, .ref ra, .int (nI rc)]) (n := 5) (Nat.le_of_ble_eq_true rfl)
  rw [lg_entry_eq]
  generalize (lg_sl ([.int i, .ref ra, .int (nI rc)]) ++ List.replicate (5 - (lg_sl ([.int i, .ref ra, .int (nI rc)])).length) Slot.unset).toArray = ls at hl ⊢
  have hl : lv_has ls 5 [(0, .int i), (1, .ref ra), (2, .int (nI rc))] := hl
  refine lv_iconst (v := 0) hx hb dX1_countRowsWith_0 (by decide) ?_
  refine lv_istore_n (lv' := [(3, .int 0), (0, .int i), (1, .ref ra), (2, .int (nI rc))]) hx hb dX1_countRowsWith_1 rfl hl (by decide) rfl (fun ls hl => ?_)
  refine lv_iconst (v := 0) hx hb dX1_countRowsWith_2 (by decide) ?_
  refine lv_istore (lv' := [(4, .int 0), (3, .int 0), (0, .int i), (1, .ref ra), (2, .int (nI rc))]) hx hb dX1_countRowsWith_3 hl (by decide) rfl (fun ls hl => ?_)
  have hi_hk : 0 ≤ rc := (by omega)
  have hi_ht : 0 = sp_crw rows i 0 := rfl
  have hl9 : lv_has ls 5 [(4, .int (nI 0)), (3, .int (nI 0)), (0, .int i), (1, .ref ra), (2, .int (nI rc))] := lv_sub hl [0, 1, 2, 3, 4] rfl
  refine r_loop2 (I := fun (k : Nat) (t : Nat) (ls : Array Slot) => (k ≤ rc) ∧ (t = sp_crw rows i k) ∧ lv_has ls 5 [(4, .int (nI k)), (3, .int (nI t)), (0, .int i), (1, .ref ra), (2, .int (nI rc))]) (μ := fun k t => rc - k) ?_ 0 0 ⟨hi_hk, hi_ht, hl9⟩
  intro k t ls hI9 ih_L0
  obtain ⟨hk, ht, hl⟩ := hI9
  refine lv_iload hx hb dX1_countRowsWith_5 (lv_at hl 0 rfl) ?_
  refine lv_iload_n hx hb dX1_countRowsWith_7 rfl (lv_at hl 4 rfl) ?_
  refine lv_icmp_ge (tgt := 38) hx hb dX1_countRowsWith_8 (by decide) (fun c_1 => ?_) (fun c_1 => ?_)
  · have c_1 : (nI rc) ≤ (nI k) := c_1
    have hk9 : rc ≤ k := (ku_le (a := rc) (b := k) (by omega) (by omega)).mp c_1
    refine lv_iload_n hx hb dX1_countRowsWith_38 rfl (lv_at hl 1 rfl) ?_
    exact W.iret (v := nI t) hx hb hr (fun t9 ht9 hW9 => ⟨nI t, rfl, (by have e : k = rc := (by omega); rw [ht, e]), ht9⟩) (fun _ h => absurd h List.not_mem_nil) dX1_countRowsWith_39
  · have c_1 : ¬ ((nI rc) ≤ (nI k)) := c_1
    have hk9 : k < rc := (ku_nle (a := rc) (b := k) (by omega) (by omega)).mp c_1
    refine lv_iload hx hb dX1_countRowsWith_11 (lv_at hl 0 rfl) ?_
    refine lv_aload_n hx hb dX1_countRowsWith_13 rfl (lv_at hl 3 rfl) ?_
    refine va_alen (D := (dC, dI)) (v := nI n) hx hb hK hP 0 1 rfl rfl rfl dX1_countRowsWith_14 ?_
    refine lv_icmp_ge (tgt := 38) hx hb dX1_countRowsWith_15 (by decide) (fun c_2 => ?_) (fun c_2 => ?_)
    · have c_2 : (nI n) ≤ (nI k) := c_2
      exact absurd ((ku_le (a := n) (b := k) (by omega) (by omega)).mp c_2) (by omega)
    · have c_2 : ¬ ((nI n) ≤ (nI k)) := c_2
      refine lv_aload_n hx hb dX1_countRowsWith_18 rfl (lv_at hl 3 rfl) ?_
      refine lv_iload hx hb dX1_countRowsWith_19 (lv_at hl 0 rfl) ?_
      refine va_lald (D := (dC, dI)) hx hb hK hP 0 1 rfl rfl (vp_in_nI (by omega) (by omega)) dX1_countRowsWith_21 ?_
      refine kt_l (congrArg rows (nI_clamp (by omega : k < 2 ^ 31))) ?_
      refine lv_iload_n hx hb dX1_countRowsWith_22 rfl (lv_at hl 2 rfl) ?_
      have hPc := hP.sub (ws' := []) [] rfl
      refine kq_csi (va_runSN (As := [.long (rows k), .int i]) (rest := []) ⟨hx, hb, hml, hown, hts⟩ (c_FountainRows_hasBit l dC dI cA (rows k) i) ⟨va_cnB 2 hts (kg_I tb_53) rfl rfl rfl (hN.2 (RX1, 35, yX5_hasBit, "FountainRows") (List.mem_of_getElem? (i := 7) rfl)) (hts _ tb_54) (by decide +kernel) ⟨Nat.le_of_ble_eq_true rfl, Nat.le_of_ble_eq_true rfl⟩, hts _ tb_55, trivial⟩ (kps_ro hK hN hPc) rfl rfl hl.1 rfl (lv_room (Nat.le_of_ble_eq_true rfl)) dX1_countRowsWith_23 ⟨Nat.le_of_ble_eq_true rfl, Nat.le_of_ble_eq_true rfl⟩) (fun r_3 hr_3 => ?_)
      subst hr_3
      refine lv_if_eq (tgt := 32) hx hb dX1_countRowsWith_26 (by decide) (fun c_4 => ?_) (fun c_4 => ?_)
      · have c_4 : (sp_bit (rows k) i) = 0 := c_4
        refine lv_iinc (v := nI (k + 1)) (lv' := [(4, .int (nI (k + 1))), (3, .int (nI t)), (0, .int i), (1, .ref ra), (2, .int (nI rc))]) hx hb dX1_countRowsWith_32 hl (k := 0) rfl (nI_succ _).symm (by decide) rfl (fun ls hl => ?_)
        refine lv_goto (tgt := 5) hx hb dX1_countRowsWith_35 (by decide) ?_
        have hi_hk : (k + 1) ≤ rc := (by omega)
        have hi_ht : t = sp_crw rows i (k + 1) := (by subst ht; exact (if_pos c_4).symm)
        have hl9 : lv_has ls 5 [(4, .int (nI (k + 1))), (3, .int (nI t)), (0, .int i), (1, .ref ra), (2, .int (nI rc))] := lv_sub hl [0, 1, 2, 3, 4] rfl
        exact ih_L0 (k + 1) t ls ⟨hi_hk, hi_ht, hl9⟩ (by show rc - (k + 1) < rc - k; omega)
      · have c_4 : ¬ ((sp_bit (rows k) i) = 0) := c_4
        refine lv_iinc (v := nI (t + 1)) (lv' := [(3, .int (nI (t + 1))), (4, .int (nI k)), (0, .int i), (1, .ref ra), (2, .int (nI rc))]) hx hb dX1_countRowsWith_29 hl (k := 1) rfl (nI_succ _).symm (by decide) rfl (fun ls hl => ?_)
        refine lv_iinc (v := nI (k + 1)) (lv' := [(4, .int (nI (k + 1))), (3, .int (nI (t + 1))), (0, .int i), (1, .ref ra), (2, .int (nI rc))]) hx hb dX1_countRowsWith_32 hl (k := 1) rfl (nI_succ _).symm (by decide) rfl (fun ls hl => ?_)
        refine lv_goto (tgt := 5) hx hb dX1_countRowsWith_35 (by decide) ?_
        have hi_hk : (k + 1) ≤ rc := (by omega)
        have hi_ht : (t + 1) = sp_crw rows i (k + 1) := (by subst ht; exact (if_neg c_4).symm)
        have hl9 : lv_has ls 5 [(4, .int (nI (k + 1))), (3, .int (nI (t + 1))), (0, .int i), (1, .ref ra), (2, .int (nI rc))] := lv_sub hl [0, 1, 2, 3, 4] rfl
        exact ih_L0 (k + 1) (t + 1) ls ⟨hi_hk, hi_ht, hl9⟩ (by show rc - (k + 1) < rc - k; omega)
set_option maxHeartbeats 4000000 in
set_option maxRecDepth 100000 in
theorem c_Peeling_onlyOpenPart (l : Launch) (dC : Nat → ClassId) (dI : Nat → Nat → Nat) (cA : Nat → ClassId) (o : Nat) (op : Int64) (fo : Int64) (ia : Int64) (ra : Nat) (n : Nat) (rows : Nat → Int64) (rc : Nat) (hrc : rc ≤ n) (hn : n < 2 ^ 30) : Met l yX1_onlyOpenPart (kw_X1_onlyOpenPart) ({ frames := 1, cells := 0, slots := 0, locals := 21 }) (va_Pc [.ref o, .ref ra, .int (nI rc)] (fun U => kRO dC dI cA [(o, .inr (1, [.long op, .long fo, .long ia])), (ra, .inl (cA 1, n, .inr (.inl rows)))] U)) (vp_Sl (fun r => r = sp_only rows op rc 0)) 0 0 (fun _ => False) := by
  refine Met.ofW (cc := cX1_onlyOpenPart) (maxL := 4) (ret := (some .long)) (by decide) rfl ?_
  intro p e s m args below meth c s₁ B hml hv
  obtain ⟨rfl, hP, hK, hN⟩ := hv
  have hx := B.exec
  have hb := B.bytes
  have hr := B.returns
  have hts0 := atoms_spec (ws := (kw_X1_onlyOpenPart)) B.pre
  have hts : ∀ w ∈ TB, w.before _ s = true := fun w h => hts0 w (List.mem_cons_of_mem _ h)
  have hown : s.vm.findClass RX1 = some m.cls := findClass_of_methodNamed B.named
  have hlocks := B.notSynchronized
  have hk_0 := hts (.fieldLink RX1 7 "FountainRows$Peeling" "open" "J") tb_113
  have hl := lv_entry ([.ref o, .ref ra, .int (nI rc)]) (n := 4) (Nat.le_of_ble_eq_true rfl)
  rw [lg_entry_eq]
  generalize (lg_sl ([.ref o, .ref ra, .int (nI rc)]) ++ List.replicate (4 - (lg_sl ([.ref o, .ref ra, .int (nI rc)])).length) Slot.unset).toArray = ls at hl ⊢
  have hl : lv_has ls 4 [(0, .ref o), (1, .ref ra), (2, .int (nI rc))] := hl
  refine lv_iconst (v := 0) hx hb dX1_onlyOpenPart_0 (by decide) ?_
  refine lv_istore_n (lv' := [(3, .int 0), (0, .ref o), (1, .ref ra), (2, .int (nI rc))]) hx hb dX1_onlyOpenPart_1 rfl hl (by decide) rfl (fun ls hl => ?_)
  have hi_hk : 0 ≤ rc := (by omega)
  have hi_hrem : sp_only rows op (rc - 0) 0 = sp_only rows op rc 0 := rfl
  have hl9 : lv_has ls 4 [(3, .int (nI 0)), (0, .ref o), (1, .ref ra), (2, .int (nI rc))] := lv_sub hl [0, 1, 2, 3] rfl
  refine r_loop1 (I := fun (k : Nat) (ls : Array Slot) => (k ≤ rc) ∧ (sp_only rows op (rc - k) k = sp_only rows op rc 0) ∧ lv_has ls 4 [(3, .int (nI k)), (0, .ref o), (1, .ref ra), (2, .int (nI rc))]) (μ := fun k => rc - k) ?_ 0 ⟨hi_hk, hi_hrem, hl9⟩
  intro k ls hI9 ih_L0
  obtain ⟨hk, hrem, hl⟩ := hI9
  refine lv_iload_n hx hb dX1_onlyOpenPart_2 rfl (lv_at hl 0 rfl) ?_
  refine lv_iload_n hx hb dX1_onlyOpenPart_3 rfl (lv_at hl 3 rfl) ?_
  refine lv_icmp_ge (tgt := 43) hx hb dX1_onlyOpenPart_4 (by decide) (fun c_1 => ?_) (fun c_1 => ?_)
  · have c_1 : (nI rc) ≤ (nI k) := c_1
    have hk9 : rc ≤ k := (ku_le (a := rc) (b := k) (by omega) (by omega)).mp c_1
    refine lv_lconst (v := 0) hx hb dX1_onlyOpenPart_43 (by decide) ?_
    exact W.lret (v := 0) hx hb hr (fun t9 ht9 hW9 => ⟨0, rfl, (by rw [← hrem, show rc - k = 0 from (by omega)]; rfl), ht9⟩) (fun _ h => absurd h List.not_mem_nil) dX1_onlyOpenPart_44
  · have c_1 : ¬ ((nI rc) ≤ (nI k)) := c_1
    have hk9 : k < rc := (ku_nle (a := rc) (b := k) (by omega) (by omega)).mp c_1
    refine lv_iload_n hx hb dX1_onlyOpenPart_7 rfl (lv_at hl 0 rfl) ?_
    refine lv_aload_n hx hb dX1_onlyOpenPart_8 rfl (lv_at hl 2 rfl) ?_
    refine va_alen (D := (dC, dI)) (v := nI n) hx hb hK hP 1 1 rfl rfl rfl dX1_onlyOpenPart_9 ?_
    refine lv_icmp_ge (tgt := 43) hx hb dX1_onlyOpenPart_10 (by decide) (fun c_2 => ?_) (fun c_2 => ?_)
    · have c_2 : (nI n) ≤ (nI k) := c_2
      exact absurd ((ku_le (a := n) (b := k) (by omega) (by omega)).mp c_2) (by omega)
    · have c_2 : ¬ ((nI n) ≤ (nI k)) := c_2
      refine lv_aload_n hx hb dX1_onlyOpenPart_13 rfl (lv_at hl 2 rfl) ?_
      refine lv_iload_n hx hb dX1_onlyOpenPart_14 rfl (lv_at hl 0 rfl) ?_
      refine va_lald (D := (dC, dI)) hx hb hK hP 1 1 rfl rfl (vp_in_nI (by omega) (by omega)) dX1_onlyOpenPart_15 ?_
      refine kt_l (congrArg rows (nI_clamp (by omega : k < 2 ^ 31))) ?_
      refine lv_aload_n hx hb dX1_onlyOpenPart_16 rfl (lv_at hl 1 rfl) ?_
      refine va_get (D := (dC, dI)) (ci := 1) (v := .long op) (C := RX1) (T := TX1) (N := 3) hx hb hts inX1 hown hK hP 0 rfl rfl 0 (by decide) hk_0 (fun _ h9 => h9) rfl dX1_onlyOpenPart_17 ?_
      refine lv_land hx hb dX1_onlyOpenPart_20 ?_
      have hPc := hP.sub (ws' := []) [] rfl
      refine kq_csi (va_runS (As := [.long ((rows k) &&& op)]) (rest := []) ⟨hx, hb, hml, hown, hts⟩ (c_bitCount l dC dI cA ((rows k) &&& op)) (va_cwS 1 hts (kg_S tb_110 tb_111 tb_112 tb_109) rfl rfl rfl (by decide +kernel) ⟨Nat.le_of_ble_eq_true rfl, Nat.le_of_ble_eq_true rfl⟩) (kps_ro hK hN hPc) rfl rfl hl.1 rfl (lv_room (Nat.le_of_ble_eq_true rfl)) dX1_onlyOpenPart_21 ⟨Nat.le_of_ble_eq_true rfl, Nat.le_of_ble_eq_true rfl⟩) (fun r_3 hr_3 => ?_)
      subst hr_3
      refine lv_iconst (v := 1) hx hb dX1_onlyOpenPart_24 (by decide) ?_
      refine lv_icmp_ne (tgt := 37) hx hb dX1_onlyOpenPart_25 (by decide) (fun c_4 => ?_) (fun c_4 => ?_)
      · have c_4 : ¬ ((sp_bc ((rows k) &&& op)) = 1) := c_4
        refine lv_iinc (v := nI (k + 1)) (lv' := [(3, .int (nI (k + 1))), (0, .ref o), (1, .ref ra), (2, .int (nI rc))]) hx hb dX1_onlyOpenPart_37 hl (k := 0) rfl (nI_succ _).symm (by decide) rfl (fun ls hl => ?_)
        refine lv_goto (tgt := 2) hx hb dX1_onlyOpenPart_40 (by decide) ?_
        have hi_hk : (k + 1) ≤ rc := (by omega)
        have hi_hrem : sp_only rows op (rc - (k + 1)) (k + 1) = sp_only rows op rc 0 := (by rw [← hrem, show rc - k = (rc - (k + 1)) + 1 from (by omega)]; exact (if_neg (by assumption)).symm)
        have hl9 : lv_has ls 4 [(3, .int (nI (k + 1))), (0, .ref o), (1, .ref ra), (2, .int (nI rc))] := lv_sub hl [0, 1, 2, 3] rfl
        exact ih_L0 (k + 1) ls ⟨hi_hk, hi_hrem, hl9⟩ (by show rc - (k + 1) < rc - k; omega)
      · have c_4 : (sp_bc ((rows k) &&& op)) = 1 := c_4
        refine lv_aload_n hx hb dX1_onlyOpenPart_28 rfl (lv_at hl 2 rfl) ?_
        refine lv_iload_n hx hb dX1_onlyOpenPart_29 rfl (lv_at hl 0 rfl) ?_
        refine va_lald (D := (dC, dI)) hx hb hK hP 1 1 rfl rfl (vp_in_nI (by omega) (by omega)) dX1_onlyOpenPart_30 ?_
        refine kt_l (congrArg rows (nI_clamp (by omega : k < 2 ^ 31))) ?_
        refine lv_aload_n hx hb dX1_onlyOpenPart_31 rfl (lv_at hl 1 rfl) ?_
        refine va_get (D := (dC, dI)) (ci := 1) (v := .long op) (C := RX1) (T := TX1) (N := 3) hx hb hts inX1 hown hK hP 0 rfl rfl 0 (by decide) hk_0 (fun _ h9 => h9) rfl dX1_onlyOpenPart_32 ?_
        refine lv_land hx hb dX1_onlyOpenPart_35 ?_
        exact W.lret (v := (rows k) &&& op) hx hb hr (fun t9 ht9 hW9 => ⟨(rows k) &&& op, rfl, (by rw [← hrem, show rc - k = (rc - (k + 1)) + 1 from (by omega)]; exact (if_pos (by assumption)).symm), ht9⟩) (fun _ h => absurd h List.not_mem_nil) dX1_onlyOpenPart_36
set_option maxHeartbeats 4000000 in
set_option maxRecDepth 100000 in
theorem c_Peeling_mostSharedPart (l : Launch) (dC : Nat → ClassId) (dI : Nat → Nat → Nat) (cA : Nat → ClassId) (o : Nat) (op : Int64) (fo : Int64) (ia : Int64) (ra : Nat) (n : Nat) (rows : Nat → Int64) (rc : Nat) (KP : Nat) (hrc : rc ≤ n) (hn : n < 2 ^ 30) (hKP : KP ≤ 40) : Met l yX1_mostSharedPart (kw_X1_mostSharedPart) ({ frames := 2, cells := 0, slots := 0, locals := 46 }) (va_Pc [.ref o, .ref ra, .int (nI rc), .int (nI KP)] (fun U => kRO dC dI cA [(o, .inr (1, [.long op, .long fo, .long ia])), (ra, .inl (cA 1, n, .inr (.inl rows)))] U)) (vp_Sl (fun r => r = (sp_ms rows op rc KP).1)) 0 0 (fun _ => False) := by
  refine Met.ofW (cc := cX1_mostSharedPart) (maxL := 9) (ret := (some .long)) (by decide) rfl ?_
  intro p e s m args below meth c s₁ B hml hv
  obtain ⟨rfl, hP, hK, hN⟩ := hv
  have hx := B.exec
  have hb := B.bytes
  have hr := B.returns
  have hts0 := atoms_spec (ws := (kw_X1_mostSharedPart)) B.pre
  have hts : ∀ w ∈ TB, w.before _ s = true := fun w h => hts0 w (List.mem_cons_of_mem _ h)
  have hown : s.vm.findClass RX1 = some m.cls := findClass_of_methodNamed B.named
  have hlocks := B.notSynchronized
  have hk_0 := hts (.fieldLink RX1 7 "FountainRows$Peeling" "open" "J") tb_113
  have hl := lv_entry ([.ref o, .ref ra, .int (nI rc), .int (nI KP)]) (n := 9) (Nat.le_of_ble_eq_true rfl)
  rw [lg_entry_eq]
  generalize (lg_sl ([.ref o, .ref ra, .int (nI rc), .int (nI KP)]) ++ List.replicate (9 - (lg_sl ([.ref o, .ref ra, .int (nI rc), .int (nI KP)])).length) Slot.unset).toArray = ls at hl ⊢
  have hl : lv_has ls 9 [(0, .ref o), (1, .ref ra), (2, .int (nI rc)), (3, .int (nI KP))] := hl
  refine lv_lconst (v := 0) hx hb dX1_mostSharedPart_0 (by decide) ?_
  refine lv_lstore (lv' := [(4, .long 0), (0, .ref o), (1, .ref ra), (2, .int (nI rc)), (3, .int (nI KP))]) hx hb dX1_mostSharedPart_1 hl (by decide) rfl (fun ls hl => ?_)
  refine lv_iconst (v := 0) hx hb dX1_mostSharedPart_3 (by decide) ?_
  refine lv_istore (lv' := [(6, .int 0), (4, .long 0), (0, .ref o), (1, .ref ra), (2, .int (nI rc)), (3, .int (nI KP))]) hx hb dX1_mostSharedPart_4 hl (by decide) rfl (fun ls hl => ?_)
  refine lv_iconst (v := 0) hx hb dX1_mostSharedPart_6 (by decide) ?_
  refine lv_istore (lv' := [(7, .int 0), (6, .int 0), (4, .long 0), (0, .ref o), (1, .ref ra), (2, .int (nI rc)), (3, .int (nI KP))]) hx hb dX1_mostSharedPart_7 hl (by decide) rfl (fun ls hl => ?_)
  have hi_hk : 0 ≤ KP := (by omega)
  have hi_htn : 0 ≤ rc := (by omega)
  have hi_ht : (0, 0) = sp_ms rows op rc 0 := rfl
  have hl9 : lv_has ls 9 [(7, .int (nI 0)), (4, .long 0), (6, .int (nI 0)), (0, .ref o), (1, .ref ra), (2, .int (nI rc)), (3, .int (nI KP))] := lv_sub hl [0, 2, 1, 3, 4, 5, 6] rfl
  refine r_loop3 (I := fun (k : Nat) (x : Int64) (t : Nat) (ls : Array Slot) => (k ≤ KP) ∧ (t ≤ rc) ∧ ((x, t) = sp_ms rows op rc k) ∧ lv_has ls 9 [(7, .int (nI k)), (4, .long x), (6, .int (nI t)), (0, .ref o), (1, .ref ra), (2, .int (nI rc)), (3, .int (nI KP))]) (μ := fun k x t => KP - k) ?_ 0 0 0 ⟨hi_hk, hi_htn, hi_ht, hl9⟩
  intro k x t ls hI9 ih_L0
  obtain ⟨hk, htn, ht, hl⟩ := hI9
  refine lv_iload hx hb dX1_mostSharedPart_9 (lv_at hl 0 rfl) ?_
  refine lv_iload_n hx hb dX1_mostSharedPart_11 rfl (lv_at hl 6 rfl) ?_
  refine lv_icmp_ge (tgt := 63) hx hb dX1_mostSharedPart_12 (by decide) (fun c_1 => ?_) (fun c_1 => ?_)
  · have c_1 : (nI KP) ≤ (nI k) := c_1
    have hk9 : KP ≤ k := (ku_le (a := KP) (b := k) (by omega) (by omega)).mp c_1
    refine lv_lload hx hb dX1_mostSharedPart_63 (lv_at hl 1 rfl) ?_
    exact W.lret (v := x) hx hb hr (fun t9 ht9 hW9 => ⟨x, rfl, (by have e : k = KP := (by omega); rw [← e, ← ht]), ht9⟩) (fun _ h => absurd h List.not_mem_nil) dX1_mostSharedPart_65
  · have c_1 : ¬ ((nI KP) ≤ (nI k)) := c_1
    have hk9 : k < KP := (ku_nle (a := KP) (b := k) (by omega) (by omega)).mp c_1
    refine lv_aload_n hx hb dX1_mostSharedPart_15 rfl (lv_at hl 3 rfl) ?_
    refine va_get (D := (dC, dI)) (ci := 1) (v := .long op) (C := RX1) (T := TX1) (N := 3) hx hb hts inX1 hown hK hP 0 rfl rfl 0 (by decide) hk_0 (fun _ h9 => h9) rfl dX1_mostSharedPart_16 ?_
    refine lv_iload hx hb dX1_mostSharedPart_19 (lv_at hl 0 rfl) ?_
    have hPc := hP.sub (ws' := []) [] rfl
    refine kq_csi (va_runSN (As := [.long op, .int (nI k)]) (rest := []) ⟨hx, hb, hml, hown, hts⟩ (c_FountainRows_hasBit l dC dI cA op (nI k)) ⟨va_cnB 2 hts (kg_I tb_53) rfl rfl rfl (hN.2 (RX1, 35, yX5_hasBit, "FountainRows") (List.mem_of_getElem? (i := 7) rfl)) (hts _ tb_54) (by decide +kernel) ⟨Nat.le_of_ble_eq_true rfl, Nat.le_of_ble_eq_true rfl⟩, hts _ tb_55, trivial⟩ (kps_ro hK hN hPc) rfl rfl hl.1 rfl (lv_room (Nat.le_of_ble_eq_true rfl)) dX1_mostSharedPart_21 ⟨Nat.le_of_ble_eq_true rfl, Nat.le_of_ble_eq_true rfl⟩) (fun r_2 hr_2 => ?_)
    subst hr_2
    refine lv_if_eq (tgt := 37) hx hb dX1_mostSharedPart_24 (by decide) (fun c_3 => ?_) (fun c_3 => ?_)
    · have c_3 : (sp_bit op (nI k)) = 0 := c_3
      have hbit := c_3
      refine lv_iconst (v := 0) hx hb dX1_mostSharedPart_37 (by decide) ?_
      refine lv_istore (lv' := [(8, .int 0), (7, .int (nI k)), (4, .long x), (6, .int (nI t)), (0, .ref o), (1, .ref ra), (2, .int (nI rc)), (3, .int (nI KP))]) hx hb dX1_mostSharedPart_38 hl (by decide) rfl (fun ls hl => ?_)
      refine lv_iload hx hb dX1_mostSharedPart_40 (lv_at hl 0 rfl) ?_
      refine lv_iload hx hb dX1_mostSharedPart_42 (lv_at hl 3 rfl) ?_
      refine lv_icmp_le (tgt := 57) hx hb dX1_mostSharedPart_44 (by decide) (fun c_4 => ?_) (fun c_4 => ?_)
      · have c_4 : (0 : Int32) ≤ (nI t) := c_4
        refine lv_iinc (v := nI (k + 1)) (lv' := [(7, .int (nI (k + 1))), (8, .int 0), (4, .long x), (6, .int (nI t)), (0, .ref o), (1, .ref ra), (2, .int (nI rc)), (3, .int (nI KP))]) hx hb dX1_mostSharedPart_57 hl (k := 1) rfl (nI_succ _).symm (by decide) rfl (fun ls hl => ?_)
        refine lv_goto (tgt := 9) hx hb dX1_mostSharedPart_60 (by decide) ?_
        have hi_hk : (k + 1) ≤ KP := (by omega)
        have hi_htn : t ≤ rc := (by first | omega | exact sp_crw_le _ _ _)
        have hi_ht : (x, t) = sp_ms rows op rc (k + 1) := (by first | exact sp_ms_a ht hbit | exact sp_ms_b ht hbit (by assumption) (by omega) (by omega) | exact sp_ms_c ht hbit (by assumption) (by omega) (by omega))
        have hl9 : lv_has ls 9 [(7, .int (nI (k + 1))), (4, .long x), (6, .int (nI t)), (0, .ref o), (1, .ref ra), (2, .int (nI rc)), (3, .int (nI KP))] := lv_sub hl [0, 2, 3, 4, 5, 6, 7] rfl
        exact ih_L0 (k + 1) x t ls ⟨hi_hk, hi_htn, hi_ht, hl9⟩ (by show KP - (k + 1) < KP - k; omega)
      · have c_4 : ¬ ((0 : Int32) ≤ (nI t)) := c_4
        exact absurd (nI_pos' (by omega)) c_4
    · have c_3 : ¬ ((sp_bit op (nI k)) = 0) := c_3
      have hbit := c_3
      have hcl := sp_crw_le rows (nI k) rc
      refine lv_iload hx hb dX1_mostSharedPart_27 (lv_at hl 0 rfl) ?_
      refine lv_aload_n hx hb dX1_mostSharedPart_29 rfl (lv_at hl 4 rfl) ?_
      refine lv_iload_n hx hb dX1_mostSharedPart_30 rfl (lv_at hl 5 rfl) ?_
      have hPc := hP.sub (ws' := [(ra, .inl (cA 1, n, .inr (.inl rows)))]) [1] rfl
      refine kq_csi (va_runS (As := [.int (nI k), .ref ra, .int (nI rc)]) (rest := []) ⟨hx, hb, hml, hown, hts⟩ (c_Peeling_countRowsWith l dC dI cA (nI k) ra n rows rc (by first | assumption | omega) (by first | assumption | omega)) (va_cwS 3 hts (kg_S tb_115 tb_116 tb_117 tb_114) rfl rfl rfl (by decide +kernel) ⟨Nat.le_of_ble_eq_true rfl, Nat.le_of_ble_eq_true rfl⟩) (kps_ro hK hN hPc) rfl rfl hl.1 rfl (lv_room (Nat.le_of_ble_eq_true rfl)) dX1_mostSharedPart_31 ⟨Nat.le_of_ble_eq_true rfl, Nat.le_of_ble_eq_true rfl⟩) (fun r_5 hr_5 => ?_)
      subst hr_5
      refine lv_goto (tgt := 38) hx hb dX1_mostSharedPart_34 (by decide) ?_
      refine lv_istore (lv' := [(8, .int (nI (sp_crw rows (nI k) rc))), (7, .int (nI k)), (4, .long x), (6, .int (nI t)), (0, .ref o), (1, .ref ra), (2, .int (nI rc)), (3, .int (nI KP))]) hx hb dX1_mostSharedPart_38 hl (by decide) rfl (fun ls hl => ?_)
      refine lv_iload hx hb dX1_mostSharedPart_40 (lv_at hl 0 rfl) ?_
      refine lv_iload hx hb dX1_mostSharedPart_42 (lv_at hl 3 rfl) ?_
      refine lv_icmp_le (tgt := 57) hx hb dX1_mostSharedPart_44 (by decide) (fun c_6 => ?_) (fun c_6 => ?_)
      · have c_6 : (nI (sp_crw rows (nI k) rc)) ≤ (nI t) := c_6
        refine lv_iinc (v := nI (k + 1)) (lv' := [(7, .int (nI (k + 1))), (8, .int (nI (sp_crw rows (nI k) rc))), (4, .long x), (6, .int (nI t)), (0, .ref o), (1, .ref ra), (2, .int (nI rc)), (3, .int (nI KP))]) hx hb dX1_mostSharedPart_57 hl (k := 1) rfl (nI_succ _).symm (by decide) rfl (fun ls hl => ?_)
        refine lv_goto (tgt := 9) hx hb dX1_mostSharedPart_60 (by decide) ?_
        have hi_hk : (k + 1) ≤ KP := (by omega)
        have hi_htn : t ≤ rc := (by first | omega | exact sp_crw_le _ _ _)
        have hi_ht : (x, t) = sp_ms rows op rc (k + 1) := (by first | exact sp_ms_a ht hbit | exact sp_ms_b ht hbit (by assumption) (by omega) (by omega) | exact sp_ms_c ht hbit (by assumption) (by omega) (by omega))
        have hl9 : lv_has ls 9 [(7, .int (nI (k + 1))), (4, .long x), (6, .int (nI t)), (0, .ref o), (1, .ref ra), (2, .int (nI rc)), (3, .int (nI KP))] := lv_sub hl [0, 2, 3, 4, 5, 6, 7] rfl
        exact ih_L0 (k + 1) x t ls ⟨hi_hk, hi_htn, hi_ht, hl9⟩ (by show KP - (k + 1) < KP - k; omega)
      · have c_6 : ¬ ((nI (sp_crw rows (nI k) rc)) ≤ (nI t)) := c_6
        refine lv_iload hx hb dX1_mostSharedPart_47 (lv_at hl 0 rfl) ?_
        refine lv_istore (lv' := [(6, .int (nI (sp_crw rows (nI k) rc))), (8, .int (nI (sp_crw rows (nI k) rc))), (7, .int (nI k)), (4, .long x), (0, .ref o), (1, .ref ra), (2, .int (nI rc)), (3, .int (nI KP))]) hx hb dX1_mostSharedPart_49 hl (by decide) rfl (fun ls hl => ?_)
        refine lv_lconst (v := 1) hx hb dX1_mostSharedPart_51 (by decide) ?_
        refine lv_iload hx hb dX1_mostSharedPart_52 (lv_at hl 2 rfl) ?_
        refine lv_lshl (v := jv_lshl 1 (nI k)) hx hb dX1_mostSharedPart_54 rfl ?_
        refine lv_lstore (lv' := [(4, .long (jv_lshl 1 (nI k))), (6, .int (nI (sp_crw rows (nI k) rc))), (8, .int (nI (sp_crw rows (nI k) rc))), (7, .int (nI k)), (0, .ref o), (1, .ref ra), (2, .int (nI rc)), (3, .int (nI KP))]) hx hb dX1_mostSharedPart_55 hl (by decide) rfl (fun ls hl => ?_)
        refine lv_iinc (v := nI (k + 1)) (lv' := [(7, .int (nI (k + 1))), (4, .long (jv_lshl 1 (nI k))), (6, .int (nI (sp_crw rows (nI k) rc))), (8, .int (nI (sp_crw rows (nI k) rc))), (0, .ref o), (1, .ref ra), (2, .int (nI rc)), (3, .int (nI KP))]) hx hb dX1_mostSharedPart_57 hl (k := 3) rfl (nI_succ _).symm (by decide) rfl (fun ls hl => ?_)
        refine lv_goto (tgt := 9) hx hb dX1_mostSharedPart_60 (by decide) ?_
        have hi_hk : (k + 1) ≤ KP := (by omega)
        have hi_htn : (sp_crw rows (nI k) rc) ≤ rc := (by first | omega | exact sp_crw_le _ _ _)
        have hi_ht : ((jv_lshl 1 (nI k)), (sp_crw rows (nI k) rc)) = sp_ms rows op rc (k + 1) := (by first | exact sp_ms_a ht hbit | exact sp_ms_b ht hbit (by assumption) (by omega) (by omega) | exact sp_ms_c ht hbit (by assumption) (by omega) (by omega))
        have hl9 : lv_has ls 9 [(7, .int (nI (k + 1))), (4, .long (jv_lshl 1 (nI k))), (6, .int (nI (sp_crw rows (nI k) rc))), (0, .ref o), (1, .ref ra), (2, .int (nI rc)), (3, .int (nI KP))] := lv_sub hl [0, 1, 2, 4, 5, 6, 7] rfl
        exact ih_L0 (k + 1) (jv_lshl 1 (nI k)) (sp_crw rows (nI k) rc) ls ⟨hi_hk, hi_htn, hi_ht, hl9⟩ (by show KP - (k + 1) < KP - k; omega)
set_option maxHeartbeats 4000000 in
set_option maxRecDepth 100000 in
theorem c_Peeling_run (l : Launch) (dC : Nat → ClassId) (dI : Nat → Nat → Nat) (cA : Nat → ClassId) (sz : Nat) (o : Nat) (op : Int64) (fo : Int64) (ia : Int64) (ra : Nat) (n : Nat) (rows : Nat → Int64) (rc : Nat) (KP : Nat) (hrc : rc ≤ n) (hn : n < 2 ^ 30) (hKP : KP ≤ 40) : Met l yX1_run (kw_X1_run) ({ frames := 3, cells := 0, slots := 0, locals := 74 }) (va_Pc [.ref o, .ref ra, .int (nI rc), .int (nI KP)] (fun U => kRW dC dI cA [(o, .inr (1, [.long op, .long fo, .long ia])), (ra, .inl (cA 1, n, .inr (.inl rows)))] sz U)) (va_Qv (fun (u : Unit) => True) (fun (u : Unit) t => kB dC dI (va_A [(o, .inr (1, [.long op, .long fo, .long ia])), (ra, .inl (cA 1, n, .inr (.inl rows)))] sz) [(o, .inr (1, [.long ((sp_run rows rc KP KP (sp_run0 KP)).1), .long ((sp_run rows rc KP KP (sp_run0 KP)).2.1), .long ((sp_run rows rc KP KP (sp_run0 KP)).2.2)])), (ra, .inl (cA 1, n, .inr (.inl rows)))] t) (va_A [(o, .inr (1, [.long op, .long fo, .long ia])), (ra, .inl (cA 1, n, .inr (.inl rows)))] sz)) 0 0 (va_A [(o, .inr (1, [.long op, .long fo, .long ia])), (ra, .inl (cA 1, n, .inr (.inl rows)))] sz) := by
  refine Met.ofW (cc := cX1_run) (maxL := 7) (ret := none) (by decide) rfl ?_
  intro p e s m args below meth c s₁ B hml hv
  obtain ⟨rfl, hsz, hP, hK, hN, hD0⟩ := hv
  have hx := B.exec
  have hb := B.bytes
  have hr := B.returns
  have hts0 := atoms_spec (ws := (kw_X1_run)) B.pre
  have hts : ∀ w ∈ TB, w.before _ s = true := fun w h => hts0 w (List.mem_cons_of_mem _ h)
  have hown : s.vm.findClass RX1 = some m.cls := findClass_of_methodNamed B.named
  have hlocks := B.notSynchronized
  subst hsz
  have hD := hD0.self (sz := s.heap.size)
  generalize hAe : va_A [(o, .inr (1, [.long op, .long fo, .long ia])), (ra, .inl (cA 1, n, .inr (.inl rows)))] s.heap.size = A at hD ⊢
  have hA : ∀ q : Nat, s.heap.size ≤ q → A q := fun q h => by rw [← hAe]; exact Or.inr h
  have hS : va_S A s.heap s.heap [] := va_S.rf
  have hk_0 := hts (.fieldLink RX1 7 "FountainRows$Peeling" "open" "J") tb_113
  have hk_1 := hts (.fieldLink RX1 13 "FountainRows$Peeling" "found" "J") tb_126
  have hk_2 := hts (.fieldLink RX1 16 "FountainRows$Peeling" "inactive" "J") tb_127
  have hk_3 := hts (.constantLong RX1 27 (-1)) tb_128
  have hl := lv_entry ([.ref o, .ref ra, .int (nI rc), .int (nI KP)]) (n := 7) (Nat.le_of_ble_eq_true rfl)
  rw [lg_entry_eq]
  generalize (lg_sl ([.ref o, .ref ra, .int (nI rc), .int (nI KP)]) ++ List.replicate (7 - (lg_sl ([.ref o, .ref ra, .int (nI rc), .int (nI KP)])).length) Slot.unset).toArray = ls at hl ⊢
  have hl : lv_has ls 7 [(0, .ref o), (1, .ref ra), (2, .int (nI rc)), (3, .int (nI KP))] := hl
  refine lv_aload_n hx hb dX1_run_0 rfl (lv_at hl 0 rfl) ?_
  refine lv_lconst (v := 1) hx hb dX1_run_1 (by decide) ?_
  refine lv_iload_n hx hb dX1_run_2 rfl (lv_at hl 3 rfl) ?_
  refine lv_lshl (v := jv_lshl 1 (nI KP)) hx hb dX1_run_3 rfl ?_
  refine lv_lconst (v := 1) hx hb dX1_run_4 (by decide) ?_
  refine lv_lsub hx hb dX1_run_5 ?_
  refine va_put (D := (dC, dI)) (ci := 1) (v := .long ((jv_lshl 1 (nI KP)) - 1)) (ty := .long) (C := RX1) (T := TX1) (N := 3) hx hb hts inX1 tyX1 tyX1_ok nmX1 hown hK hP hD hS 0 rfl rfl 0 (by decide) hk_0 (fun _ h9 => h9) rfl (by decide +kernel) rfl rfl (Nat.le_of_ble_eq_true rfl) dX1_run_6 (fun H locs hP hD hS => ?_)
  have hP : va_P (dC, dI) vwCl [(o, .inr (1, [.long ((jv_lshl 1 (nI KP)) - 1), .long fo, .long ia])), (ra, .inl (cA 1, n, .inr (.inl rows)))] H := hP
  have hD : va_D A [(o, .inr (1, [.long ((jv_lshl 1 (nI KP)) - 1), .long fo, .long ia])), (ra, .inl (cA 1, n, .inr (.inl rows)))] := hD
  refine lv_aload_n hx hb dX1_run_9 rfl (lv_at hl 0 rfl) ?_
  refine lv_lconst (v := 0) hx hb dX1_run_10 (by decide) ?_
  refine va_put (D := (dC, dI)) (ci := 1) (v := .long 0) (ty := .long) (C := RX1) (T := TX1) (N := 3) hx hb hts inX1 tyX1 tyX1_ok nmX1 hown hK hP hD hS 0 rfl rfl 1 (by decide) hk_1 (fun _ h9 => h9) rfl (by decide +kernel) rfl rfl (Nat.le_of_ble_eq_true rfl) dX1_run_11 (fun H locs hP hD hS => ?_)
  have hP : va_P (dC, dI) vwCl [(o, .inr (1, [.long ((jv_lshl 1 (nI KP)) - 1), .long 0, .long ia])), (ra, .inl (cA 1, n, .inr (.inl rows)))] H := hP
  have hD : va_D A [(o, .inr (1, [.long ((jv_lshl 1 (nI KP)) - 1), .long 0, .long ia])), (ra, .inl (cA 1, n, .inr (.inl rows)))] := hD
  refine lv_aload_n hx hb dX1_run_14 rfl (lv_at hl 0 rfl) ?_
  refine lv_lconst (v := 0) hx hb dX1_run_15 (by decide) ?_
  refine va_put (D := (dC, dI)) (ci := 1) (v := .long 0) (ty := .long) (C := RX1) (T := TX1) (N := 3) hx hb hts inX1 tyX1 tyX1_ok nmX1 hown hK hP hD hS 0 rfl rfl 2 (by decide) hk_2 (fun _ h9 => h9) rfl (by decide +kernel) rfl rfl (Nat.le_of_ble_eq_true rfl) dX1_run_16 (fun H locs hP hD hS => ?_)
  have hP : va_P (dC, dI) vwCl [(o, .inr (1, [.long ((jv_lshl 1 (nI KP)) - 1), .long 0, .long 0])), (ra, .inl (cA 1, n, .inr (.inl rows)))] H := hP
  have hD : va_D A [(o, .inr (1, [.long ((jv_lshl 1 (nI KP)) - 1), .long 0, .long 0])), (ra, .inl (cA 1, n, .inr (.inl rows)))] := hD
  refine lv_iconst (v := 0) hx hb dX1_run_19 (by decide) ?_
  refine lv_istore (lv' := [(4, .int 0), (0, .ref o), (1, .ref ra), (2, .int (nI rc)), (3, .int (nI KP))]) hx hb dX1_run_20 hl (by decide) rfl (fun ls hl => ?_)
  have hi_hk : 0 ≤ KP := (by omega)
  have hi_hrem : sp_run rows rc KP (KP - 0) (((jv_lshl 1 (nI KP)) - 1), 0, 0) = sp_run rows rc KP KP (sp_run0 KP) := rfl
  have hl9 : lv_has ls 7 [(4, .int (nI 0)), (0, .ref o), (1, .ref ra), (2, .int (nI rc)), (3, .int (nI KP))] := lv_sub hl [0, 1, 2, 3, 4] rfl
  refine k_loop4 (I := fun (k : Nat) (p1 : Int64) (f1 : Int64) (i1 : Int64) (H : Heap) (locs : List Loc) (ls : Array Slot) => (k ≤ KP) ∧ (sp_run rows rc KP (KP - k) (p1, f1, i1) = sp_run rows rc KP KP (sp_run0 KP)) ∧ lv_has ls 7 [(4, .int (nI k)), (0, .ref o), (1, .ref ra), (2, .int (nI rc)), (3, .int (nI KP))] ∧ va_P (dC, dI) vwCl [(o, .inr (1, [.long p1, .long f1, .long i1])), (ra, .inl (cA 1, n, .inr (.inl rows)))] H ∧ va_D A [(o, .inr (1, [.long p1, .long f1, .long i1])), (ra, .inl (cA 1, n, .inr (.inl rows)))] ∧ va_S A s.heap H locs) (μ := fun k p1 f1 i1 => KP - k) ?_ 0 ((jv_lshl 1 (nI KP)) - 1) 0 0 ⟨hi_hk, hi_hrem, hl9, hP, hD, hS⟩
  intro k p1 f1 i1 H locs ls hI9 ih_L0
  obtain ⟨hk, hrem, hl, hP, hD, hS⟩ := hI9
  refine lv_iload hx hb dX1_run_22 (lv_at hl 0 rfl) ?_
  refine lv_iload_n hx hb dX1_run_24 rfl (lv_at hl 4 rfl) ?_
  refine lv_icmp_ge (tgt := 106) hx hb dX1_run_25 (by decide) (fun c_1 => ?_) (fun c_1 => ?_)
  · have c_1 : (nI KP) ≤ (nI k) := c_1
    have hk9 : KP ≤ k := (ku_le (a := KP) (b := k) (by omega) (by omega)).mp c_1
    have hP9 := hP.sub (ws' := [(o, .inr (1, [.long p1, .long f1, .long i1])), (ra, .inl (cA 1, n, .inr (.inl rows)))]) [0, 1] rfl
    have hD9 := hD.sub (ws' := [(o, .inr (1, [.long p1, .long f1, .long i1])), (ra, .inl (cA 1, n, .inr (.inl rows)))]) [0, 1] (by decide) rfl
    have e9_0 : (sp_run rows rc KP KP (sp_run0 KP)).1 = p1 := (by rw [← hrem]; first | (rw [show KP - k = 0 from (by omega)]; rfl) | (rw [show KP - k = (KP - (k + 1)) + 1 from (by omega), sp_run_c hnx (by assumption)]))
    have e9_1 : (sp_run rows rc KP KP (sp_run0 KP)).2.1 = f1 := (by rw [← hrem]; first | (rw [show KP - k = 0 from (by omega)]; rfl) | (rw [show KP - k = (KP - (k + 1)) + 1 from (by omega), sp_run_c hnx (by assumption)]))
    have e9_2 : (sp_run rows rc KP KP (sp_run0 KP)).2.2 = i1 := (by rw [← hrem]; first | (rw [show KP - k = 0 from (by omega)]; rfl) | (rw [show KP - k = (KP - (k + 1)) + 1 from (by omega), sp_run_c hnx (by assumption)]))
    have e9 : ([(o, .inr (1, [.long ((sp_run rows rc KP KP (sp_run0 KP)).1), .long ((sp_run rows rc KP KP (sp_run0 KP)).2.1), .long ((sp_run rows rc KP KP (sp_run0 KP)).2.2)])), (ra, .inl (cA 1, n, .inr (.inl rows)))] : va_W) = [(o, .inr (1, [.long p1, .long f1, .long i1])), (ra, .inl (cA 1, n, .inr (.inl rows)))] := by rw [e9_0, e9_1, e9_2]
    exact W.vret hx hb hr (fun t9 ht9 hW9 => ⟨⟨(), rfl, trivial, by rw [ht9, e9]; exact hP9, by rw [e9]; exact hD9⟩, hS.F ht9⟩) hS.2.2 dX1_run_106
  · have c_1 : ¬ ((nI KP) ≤ (nI k)) := c_1
    have hk9 : k < KP := (ku_nle (a := KP) (b := k) (by omega) (by omega)).mp c_1
    refine lv_aload_n hx hb dX1_run_28 rfl (lv_at hl 1 rfl) ?_
    refine lv_aload_n hx hb dX1_run_29 rfl (lv_at hl 2 rfl) ?_
    refine lv_iload_n hx hb dX1_run_30 rfl (lv_at hl 3 rfl) ?_
    have hPc := hP.sub (ws' := [(o, .inr (1, [.long p1, .long f1, .long i1])), (ra, .inl (cA 1, n, .inr (.inl rows)))]) [0, 1] rfl
    refine kq_csl (va_runV (As := [.ref ra, .int (nI rc)]) (rest := []) ⟨hx, hb, hml, hown, hts⟩ (c_Peeling_onlyOpenPart l dC dI cA o p1 f1 i1 ra n rows rc (by first | assumption | omega) (by first | assumption | omega)) (cwV 2 hts (kg_V tb_119 tb_120 tb_121 tb_117 tb_118) rfl rfl rfl (by decide +kernel) ⟨Nat.le_of_ble_eq_true rfl, Nat.le_of_ble_eq_true rfl⟩) (kpv_ro hK hN hPc (ci := 1) (q0 := 0) rfl rfl rfl) rfl rfl hl.1 rfl (lv_room (Nat.le_of_ble_eq_true rfl)) dX1_run_31 ⟨Nat.le_of_ble_eq_true rfl, Nat.le_of_ble_eq_true rfl⟩) (fun r_2 hr_2 => ?_)
    subst hr_2
    refine lv_lstore (lv' := [(5, .long (sp_only rows p1 rc 0)), (4, .int (nI k)), (0, .ref o), (1, .ref ra), (2, .int (nI rc)), (3, .int (nI KP))]) hx hb dX1_run_34 hl (by decide) rfl (fun ls hl => ?_)
    refine lv_lload hx hb dX1_run_36 (lv_at hl 0 rfl) ?_
    refine lv_lconst (v := 0) hx hb dX1_run_38 (by decide) ?_
    refine W.lcmp hx hb dX1_run_39 ?_
    refine lv_if_eq (tgt := 57) hx hb dX1_run_40 (by decide) (fun c_3 => ?_) (fun c_3 => ?_)
    · have c_3 : (lg_cmp (sp_only rows p1 rc 0) 0) = 0 := c_3
      have hnx := c_3
      refine lv_aload_n hx hb dX1_run_57 rfl (lv_at hl 2 rfl) ?_
      refine lv_aload_n hx hb dX1_run_58 rfl (lv_at hl 3 rfl) ?_
      refine lv_iload_n hx hb dX1_run_59 rfl (lv_at hl 4 rfl) ?_
      refine lv_iload_n hx hb dX1_run_60 rfl (lv_at hl 5 rfl) ?_
      have hPc := hP.sub (ws' := [(o, .inr (1, [.long p1, .long f1, .long i1])), (ra, .inl (cA 1, n, .inr (.inl rows)))]) [0, 1] rfl
      refine kq_csl (va_runV (As := [.ref ra, .int (nI rc), .int (nI KP)]) (rest := []) ⟨hx, hb, hml, hown, hts⟩ (c_Peeling_mostSharedPart l dC dI cA o p1 f1 i1 ra n rows rc KP (by first | assumption | omega) (by first | assumption | omega) (by first | assumption | omega)) (cwV 3 hts (kg_V tb_123 tb_124 tb_125 tb_117 tb_122) rfl rfl rfl (by decide +kernel) ⟨Nat.le_of_ble_eq_true rfl, Nat.le_of_ble_eq_true rfl⟩) (kpv_ro hK hN hPc (ci := 1) (q0 := 0) rfl rfl rfl) rfl rfl hl.1 rfl (lv_room (Nat.le_of_ble_eq_true rfl)) dX1_run_61 ⟨Nat.le_of_ble_eq_true rfl, Nat.le_of_ble_eq_true rfl⟩) (fun r_4 hr_4 => ?_)
      subst hr_4
      refine lv_lstore (lv' := [(5, .long ((sp_ms rows p1 rc KP).1)), (4, .int (nI k)), (0, .ref o), (1, .ref ra), (2, .int (nI rc)), (3, .int (nI KP))]) hx hb dX1_run_64 hl (by decide) rfl (fun ls hl => ?_)
      refine lv_aload_n hx hb dX1_run_66 rfl (lv_at hl 2 rfl) ?_
      refine lv_dup hx hb dX1_run_67 rfl ?_
      refine va_get (D := (dC, dI)) (ci := 1) (v := .long i1) (C := RX1) (T := TX1) (N := 3) hx hb hts inX1 hown hK hP 0 rfl rfl 2 (by decide) hk_2 (fun _ h9 => h9) rfl dX1_run_68 ?_
      refine lv_lload hx hb dX1_run_71 (lv_at hl 0 rfl) ?_
      refine lv_lor hx hb dX1_run_73 ?_
      refine va_put (D := (dC, dI)) (ci := 1) (v := .long (i1 ||| ((sp_ms rows p1 rc KP).1))) (ty := .long) (C := RX1) (T := TX1) (N := 3) hx hb hts inX1 tyX1 tyX1_ok nmX1 hown hK hP hD hS 0 rfl rfl 2 (by decide) hk_2 (fun _ h9 => h9) rfl (by decide +kernel) rfl rfl (Nat.le_of_ble_eq_true rfl) dX1_run_74 (fun H locs hP hD hS => ?_)
      have hP : va_P (dC, dI) vwCl [(o, .inr (1, [.long p1, .long f1, .long (i1 ||| ((sp_ms rows p1 rc KP).1))])), (ra, .inl (cA 1, n, .inr (.inl rows)))] H := hP
      have hD : va_D A [(o, .inr (1, [.long p1, .long f1, .long (i1 ||| ((sp_ms rows p1 rc KP).1))])), (ra, .inl (cA 1, n, .inr (.inl rows)))] := hD
      refine lv_lload hx hb dX1_run_77 (lv_at hl 0 rfl) ?_
      refine lv_lconst (v := 0) hx hb dX1_run_79 (by decide) ?_
      refine W.lcmp hx hb dX1_run_80 ?_
      refine lv_if_ne (tgt := 85) hx hb dX1_run_81 (by decide) (fun c_5 => ?_) (fun c_5 => ?_)
      · have c_5 : ¬ ((lg_cmp ((sp_ms rows p1 rc KP).1) 0) = 0) := c_5
        have hnz := c_5
        refine lv_aload_n hx hb dX1_run_85 rfl (lv_at hl 2 rfl) ?_
        refine lv_dup hx hb dX1_run_86 rfl ?_
        refine va_get (D := (dC, dI)) (ci := 1) (v := .long p1) (C := RX1) (T := TX1) (N := 3) hx hb hts inX1 hown hK hP 0 rfl rfl 0 (by decide) hk_0 (fun _ h9 => h9) rfl dX1_run_87 ?_
        refine lv_lload hx hb dX1_run_90 (lv_at hl 0 rfl) ?_
        refine lv_ldc2 (v := (-1)) hx hb hown hk_3 dX1_run_92 ?_
        refine lv_lxor hx hb dX1_run_95 ?_
        refine lv_land hx hb dX1_run_96 ?_
        refine va_put (D := (dC, dI)) (ci := 1) (v := .long (p1 &&& (((sp_ms rows p1 rc KP).1) ^^^ (-1)))) (ty := .long) (C := RX1) (T := TX1) (N := 3) hx hb hts inX1 tyX1 tyX1_ok nmX1 hown hK hP hD hS 0 rfl rfl 0 (by decide) hk_0 (fun _ h9 => h9) rfl (by decide +kernel) rfl rfl (Nat.le_of_ble_eq_true rfl) dX1_run_97 (fun H locs hP hD hS => ?_)
        have hP : va_P (dC, dI) vwCl [(o, .inr (1, [.long (p1 &&& (((sp_ms rows p1 rc KP).1) ^^^ (-1))), .long f1, .long (i1 ||| ((sp_ms rows p1 rc KP).1))])), (ra, .inl (cA 1, n, .inr (.inl rows)))] H := hP
        have hD : va_D A [(o, .inr (1, [.long (p1 &&& (((sp_ms rows p1 rc KP).1) ^^^ (-1))), .long f1, .long (i1 ||| ((sp_ms rows p1 rc KP).1))])), (ra, .inl (cA 1, n, .inr (.inl rows)))] := hD
        refine lv_iinc (v := nI (k + 1)) (lv' := [(4, .int (nI (k + 1))), (5, .long ((sp_ms rows p1 rc KP).1)), (0, .ref o), (1, .ref ra), (2, .int (nI rc)), (3, .int (nI KP))]) hx hb dX1_run_100 hl (k := 1) rfl (nI_succ _).symm (by decide) rfl (fun ls hl => ?_)
        refine lv_goto (tgt := 22) hx hb dX1_run_103 (by decide) ?_
        have hi_hk : (k + 1) ≤ KP := (by omega)
        have hi_hrem : sp_run rows rc KP (KP - (k + 1)) ((p1 &&& (((sp_ms rows p1 rc KP).1) ^^^ (-1))), f1, (i1 ||| ((sp_ms rows p1 rc KP).1))) = sp_run rows rc KP KP (sp_run0 KP) := (by rw [← hrem, show KP - k = (KP - (k + 1)) + 1 from (by omega)]; first | exact (sp_run_a hnx hnz).symm | exact (sp_run_b hnx hnz).symm)
        have hl9 : lv_has ls 7 [(4, .int (nI (k + 1))), (0, .ref o), (1, .ref ra), (2, .int (nI rc)), (3, .int (nI KP))] := lv_sub hl [0, 2, 3, 4, 5] rfl
        have hP9 : va_P (dC, dI) vwCl [(o, .inr (1, [.long (p1 &&& (((sp_ms rows p1 rc KP).1) ^^^ (-1))), .long f1, .long (i1 ||| ((sp_ms rows p1 rc KP).1))])), (ra, .inl (cA 1, n, .inr (.inl rows)))] H := hP
        have hD9 : va_D A [(o, .inr (1, [.long (p1 &&& (((sp_ms rows p1 rc KP).1) ^^^ (-1))), .long f1, .long (i1 ||| ((sp_ms rows p1 rc KP).1))])), (ra, .inl (cA 1, n, .inr (.inl rows)))] := hD
        exact ih_L0 (k + 1) (p1 &&& (((sp_ms rows p1 rc KP).1) ^^^ (-1))) f1 (i1 ||| ((sp_ms rows p1 rc KP).1)) H locs ls ⟨hi_hk, hi_hrem, hl9, hP9, hD9, hS⟩ (by show KP - (k + 1) < KP - k; omega)
      · have c_5 : (lg_cmp ((sp_ms rows p1 rc KP).1) 0) = 0 := c_5
        have hP9 := hP.sub (ws' := [(o, .inr (1, [.long p1, .long f1, .long (i1 ||| ((sp_ms rows p1 rc KP).1))])), (ra, .inl (cA 1, n, .inr (.inl rows)))]) [0, 1] rfl
        have hD9 := hD.sub (ws' := [(o, .inr (1, [.long p1, .long f1, .long (i1 ||| ((sp_ms rows p1 rc KP).1))])), (ra, .inl (cA 1, n, .inr (.inl rows)))]) [0, 1] (by decide) rfl
        have e9_0 : (sp_run rows rc KP KP (sp_run0 KP)).1 = p1 := (by rw [← hrem]; first | (rw [show KP - k = 0 from (by omega)]; rfl) | (rw [show KP - k = (KP - (k + 1)) + 1 from (by omega), sp_run_c hnx (by assumption)]))
        have e9_1 : (sp_run rows rc KP KP (sp_run0 KP)).2.1 = f1 := (by rw [← hrem]; first | (rw [show KP - k = 0 from (by omega)]; rfl) | (rw [show KP - k = (KP - (k + 1)) + 1 from (by omega), sp_run_c hnx (by assumption)]))
        have e9_2 : (sp_run rows rc KP KP (sp_run0 KP)).2.2 = i1 ||| ((sp_ms rows p1 rc KP).1) := (by rw [← hrem]; first | (rw [show KP - k = 0 from (by omega)]; rfl) | (rw [show KP - k = (KP - (k + 1)) + 1 from (by omega), sp_run_c hnx (by assumption)]))
        have e9 : ([(o, .inr (1, [.long ((sp_run rows rc KP KP (sp_run0 KP)).1), .long ((sp_run rows rc KP KP (sp_run0 KP)).2.1), .long ((sp_run rows rc KP KP (sp_run0 KP)).2.2)])), (ra, .inl (cA 1, n, .inr (.inl rows)))] : va_W) = [(o, .inr (1, [.long p1, .long f1, .long (i1 ||| ((sp_ms rows p1 rc KP).1))])), (ra, .inl (cA 1, n, .inr (.inl rows)))] := by rw [e9_0, e9_1, e9_2]
        exact W.vret hx hb hr (fun t9 ht9 hW9 => ⟨⟨(), rfl, trivial, by rw [ht9, e9]; exact hP9, by rw [e9]; exact hD9⟩, hS.F ht9⟩) hS.2.2 dX1_run_84
    · have c_3 : ¬ ((lg_cmp (sp_only rows p1 rc 0) 0) = 0) := c_3
      have hnx := c_3
      refine lv_aload_n hx hb dX1_run_43 rfl (lv_at hl 2 rfl) ?_
      refine lv_dup hx hb dX1_run_44 rfl ?_
      refine va_get (D := (dC, dI)) (ci := 1) (v := .long f1) (C := RX1) (T := TX1) (N := 3) hx hb hts inX1 hown hK hP 0 rfl rfl 1 (by decide) hk_1 (fun _ h9 => h9) rfl dX1_run_45 ?_
      refine lv_lload hx hb dX1_run_48 (lv_at hl 0 rfl) ?_
      refine lv_lor hx hb dX1_run_50 ?_
      refine va_put (D := (dC, dI)) (ci := 1) (v := .long (f1 ||| (sp_only rows p1 rc 0))) (ty := .long) (C := RX1) (T := TX1) (N := 3) hx hb hts inX1 tyX1 tyX1_ok nmX1 hown hK hP hD hS 0 rfl rfl 1 (by decide) hk_1 (fun _ h9 => h9) rfl (by decide +kernel) rfl rfl (Nat.le_of_ble_eq_true rfl) dX1_run_51 (fun H locs hP hD hS => ?_)
      have hP : va_P (dC, dI) vwCl [(o, .inr (1, [.long p1, .long (f1 ||| (sp_only rows p1 rc 0)), .long i1])), (ra, .inl (cA 1, n, .inr (.inl rows)))] H := hP
      have hD : va_D A [(o, .inr (1, [.long p1, .long (f1 ||| (sp_only rows p1 rc 0)), .long i1])), (ra, .inl (cA 1, n, .inr (.inl rows)))] := hD
      refine lv_goto (tgt := 77) hx hb dX1_run_54 (by decide) ?_
      refine lv_lload hx hb dX1_run_77 (lv_at hl 0 rfl) ?_
      refine lv_lconst (v := 0) hx hb dX1_run_79 (by decide) ?_
      refine W.lcmp hx hb dX1_run_80 ?_
      refine lv_if_ne (tgt := 85) hx hb dX1_run_81 (by decide) (fun c_6 => ?_) (fun c_6 => ?_)
      · have c_6 : ¬ ((lg_cmp (sp_only rows p1 rc 0) 0) = 0) := c_6
        have hnz := c_6
        refine lv_aload_n hx hb dX1_run_85 rfl (lv_at hl 2 rfl) ?_
        refine lv_dup hx hb dX1_run_86 rfl ?_
        refine va_get (D := (dC, dI)) (ci := 1) (v := .long p1) (C := RX1) (T := TX1) (N := 3) hx hb hts inX1 hown hK hP 0 rfl rfl 0 (by decide) hk_0 (fun _ h9 => h9) rfl dX1_run_87 ?_
        refine lv_lload hx hb dX1_run_90 (lv_at hl 0 rfl) ?_
        refine lv_ldc2 (v := (-1)) hx hb hown hk_3 dX1_run_92 ?_
        refine lv_lxor hx hb dX1_run_95 ?_
        refine lv_land hx hb dX1_run_96 ?_
        refine va_put (D := (dC, dI)) (ci := 1) (v := .long (p1 &&& ((sp_only rows p1 rc 0) ^^^ (-1)))) (ty := .long) (C := RX1) (T := TX1) (N := 3) hx hb hts inX1 tyX1 tyX1_ok nmX1 hown hK hP hD hS 0 rfl rfl 0 (by decide) hk_0 (fun _ h9 => h9) rfl (by decide +kernel) rfl rfl (Nat.le_of_ble_eq_true rfl) dX1_run_97 (fun H locs hP hD hS => ?_)
        have hP : va_P (dC, dI) vwCl [(o, .inr (1, [.long (p1 &&& ((sp_only rows p1 rc 0) ^^^ (-1))), .long (f1 ||| (sp_only rows p1 rc 0)), .long i1])), (ra, .inl (cA 1, n, .inr (.inl rows)))] H := hP
        have hD : va_D A [(o, .inr (1, [.long (p1 &&& ((sp_only rows p1 rc 0) ^^^ (-1))), .long (f1 ||| (sp_only rows p1 rc 0)), .long i1])), (ra, .inl (cA 1, n, .inr (.inl rows)))] := hD
        refine lv_iinc (v := nI (k + 1)) (lv' := [(4, .int (nI (k + 1))), (5, .long (sp_only rows p1 rc 0)), (0, .ref o), (1, .ref ra), (2, .int (nI rc)), (3, .int (nI KP))]) hx hb dX1_run_100 hl (k := 1) rfl (nI_succ _).symm (by decide) rfl (fun ls hl => ?_)
        refine lv_goto (tgt := 22) hx hb dX1_run_103 (by decide) ?_
        have hi_hk : (k + 1) ≤ KP := (by omega)
        have hi_hrem : sp_run rows rc KP (KP - (k + 1)) ((p1 &&& ((sp_only rows p1 rc 0) ^^^ (-1))), (f1 ||| (sp_only rows p1 rc 0)), i1) = sp_run rows rc KP KP (sp_run0 KP) := (by rw [← hrem, show KP - k = (KP - (k + 1)) + 1 from (by omega)]; first | exact (sp_run_a hnx hnz).symm | exact (sp_run_b hnx hnz).symm)
        have hl9 : lv_has ls 7 [(4, .int (nI (k + 1))), (0, .ref o), (1, .ref ra), (2, .int (nI rc)), (3, .int (nI KP))] := lv_sub hl [0, 2, 3, 4, 5] rfl
        have hP9 : va_P (dC, dI) vwCl [(o, .inr (1, [.long (p1 &&& ((sp_only rows p1 rc 0) ^^^ (-1))), .long (f1 ||| (sp_only rows p1 rc 0)), .long i1])), (ra, .inl (cA 1, n, .inr (.inl rows)))] H := hP
        have hD9 : va_D A [(o, .inr (1, [.long (p1 &&& ((sp_only rows p1 rc 0) ^^^ (-1))), .long (f1 ||| (sp_only rows p1 rc 0)), .long i1])), (ra, .inl (cA 1, n, .inr (.inl rows)))] := hD
        exact ih_L0 (k + 1) (p1 &&& ((sp_only rows p1 rc 0) ^^^ (-1))) (f1 ||| (sp_only rows p1 rc 0)) i1 H locs ls ⟨hi_hk, hi_hrem, hl9, hP9, hD9, hS⟩ (by show KP - (k + 1) < KP - k; omega)
      · have c_6 : (lg_cmp (sp_only rows p1 rc 0) 0) = 0 := c_6
        exact absurd c_6 hnx
