set_option maxHeartbeats 4000000 in
set_option maxRecDepth 100000 in
theorem c_Span_clear (l : Launch) (dC : Nat → ClassId) (dI : Nat → Nat → Nat) (cA : Nat → ClassId) (sz : Nat) (o : Nat) (ra : Nat) (va : Nat) (rows : Nat → Int64) (vals : Nat → Int64) (rk : Nat) (rr : Int64) (rv : Int64)  : Met l yX4_clear (kw_X4_clear) ({ frames := 0, cells := 0, slots := 0, locals := 0 }) (va_Pc [.ref o] (fun U => kRW dC dI cA [(o, .inr (4, [.ref ra, .ref va, .int (nI rk), .long rr, .long rv])), (ra, .inl (cA 1, 40, .inr (.inl rows))), (va, .inl (cA 1, 40, .inr (.inl vals)))] sz U)) (va_Qv (fun (u : Unit) => True) (fun (u : Unit) t => kB dC dI (va_A [(o, .inr (4, [.ref ra, .ref va, .int (nI rk), .long rr, .long rv])), (ra, .inl (cA 1, 40, .inr (.inl rows))), (va, .inl (cA 1, 40, .inr (.inl vals)))] sz) [(o, .inr (4, [.ref ra, .ref va, .int (nI 0), .long rr, .long rv])), (ra, .inl (cA 1, 40, .inr (.inl (sp_clr rows 40)))), (va, .inl (cA 1, 40, .inr (.inl (sp_clr vals 40))))] t) (va_A [(o, .inr (4, [.ref ra, .ref va, .int (nI rk), .long rr, .long rv])), (ra, .inl (cA 1, 40, .inr (.inl rows))), (va, .inl (cA 1, 40, .inr (.inl vals)))] sz)) 0 0 (va_A [(o, .inr (4, [.ref ra, .ref va, .int (nI rk), .long rr, .long rv])), (ra, .inl (cA 1, 40, .inr (.inl rows))), (va, .inl (cA 1, 40, .inr (.inl vals)))] sz) := by
  refine Met.ofW (cc := cX4_clear) (maxL := 2) (ret := none) (by decide) rfl ?_
  intro p e s m args below meth c s₁ B hml hv
  obtain ⟨rfl, hsz, hP, hK, hN, hD0⟩ := hv
  have hx := B.exec
  have hb := B.bytes
  have hr := B.returns
  have hts0 := atoms_spec (ws := (kw_X4_clear)) B.pre
  have hts : ∀ w ∈ TB, w.before _ s = true := fun w h => hts0 w (List.mem_cons_of_mem _ h)
  have hown : s.vm.findClass RX4 = some m.cls := findClass_of_methodNamed B.named
  have hlocks := B.notSynchronized
  subst hsz
  have hD := hD0.self (sz := s.heap.size)
  generalize hAe : va_A [(o, .inr (4, [.ref ra, .ref va, .int (nI rk), .long rr, .long rv])), (ra, .inl (cA 1, 40, .inr (.inl rows))), (va, .inl (cA 1, 40, .inr (.inl vals)))] s.heap.size = A at hD ⊢
  have hA : ∀ q : Nat, s.heap.size ≤ q → A q := fun q h => by rw [← hAe]; exact Or.inr h
  have hS : va_S A s.heap s.heap [] := va_S.rf
  have hk_0 := hts (.fieldLink RX4 18 "FountainRows$Span" "rank" "I") tb_91
  have hk_1 := hts (.fieldLink RX4 9 "FountainRows$Span" "rows" "[J") tb_92
  have hk_2 := hts (.fieldLink RX4 15 "FountainRows$Span" "values" "[J") tb_93
  have hl := lv_entry ([.ref o]) (n := 2) (Nat.le_of_ble_eq_true rfl)
  rw [lg_entry_eq]
  generalize (lg_sl ([.ref o]) ++ List.replicate (2 - (lg_sl ([.ref o])).length) Slot.unset).toArray = ls at hl ⊢
  have hl : lv_has ls 2 [(0, .ref o)] := hl
  refine lv_iconst (v := 0) hx hb dX4_clear_0 (by decide) ?_
  refine lv_istore_n (lv' := [(1, .int 0), (0, .ref o)]) hx hb dX4_clear_1 rfl hl (by decide) rfl (fun ls hl => ?_)
  have hi_hk : 0 ≤ 40 := (by omega)
  have hi_h1 : rows = sp_clr rows 0 := (sp_clr_0 _).symm
  have hi_h2 : vals = sp_clr vals 0 := (sp_clr_0 _).symm
  have hl9 : lv_has ls 2 [(1, .int (nI 0)), (0, .ref o)] := lv_sub hl [0, 1] rfl
  refine k_loop3 (I := fun (k : Nat) (f1 : Nat → Int64) (f2 : Nat → Int64) (H : Heap) (locs : List Loc) (ls : Array Slot) => (k ≤ 40) ∧ (f1 = sp_clr rows k) ∧ (f2 = sp_clr vals k) ∧ lv_has ls 2 [(1, .int (nI k)), (0, .ref o)] ∧ va_P (dC, dI) vwCl [(o, .inr (4, [.ref ra, .ref va, .int (nI rk), .long rr, .long rv])), (ra, .inl (cA 1, 40, .inr (.inl f1))), (va, .inl (cA 1, 40, .inr (.inl f2)))] H ∧ va_D A [(o, .inr (4, [.ref ra, .ref va, .int (nI rk), .long rr, .long rv])), (ra, .inl (cA 1, 40, .inr (.inl f1))), (va, .inl (cA 1, 40, .inr (.inl f2)))] ∧ va_S A s.heap H locs) (μ := fun k f1 f2 => 40 - k) ?_ 0 rows vals ⟨hi_hk, hi_h1, hi_h2, hl9, hP, hD, hS⟩
  intro k f1 f2 H locs ls hI9 ih_L0
  obtain ⟨hk, h1, h2, hl, hP, hD, hS⟩ := hI9
  refine lv_iload_n hx hb dX4_clear_2 rfl (lv_at hl 0 rfl) ?_
  refine lv_bipush (v := 40) hx hb dX4_clear_3 (by decide) ?_
  refine lv_icmp_ge (tgt := 28) hx hb dX4_clear_5 (by decide) (fun c_1 => ?_) (fun c_1 => ?_)
  · have c_1 : 40 ≤ (nI k) := c_1
    have hk9 : 40 ≤ k := (ku_le (a := 40) (b := k) (by omega) (by omega)).mp c_1
    have e40 : k = 40 := by omega
    subst e40
    refine lv_aload_n hx hb dX4_clear_28 rfl (lv_at hl 1 rfl) ?_
    refine lv_iconst (v := 0) hx hb dX4_clear_29 (by decide) ?_
    refine va_put (D := (dC, dI)) (ci := 4) (v := .int 0) (ty := .int) (C := RX4) (T := TX4) (N := 5) hx hb hts inX4 tyX4 tyX4_ok nmX4 hown hK hP hD hS 0 rfl rfl 2 (by decide) hk_0 (fun _ h9 => h9) rfl (by decide +kernel) rfl rfl (Nat.le_of_ble_eq_true rfl) dX4_clear_30 (fun H locs hP hD hS => ?_)
    have hP : va_P (dC, dI) vwCl [(o, .inr (4, [.ref ra, .ref va, .int 0, .long rr, .long rv])), (ra, .inl (cA 1, 40, .inr (.inl f1))), (va, .inl (cA 1, 40, .inr (.inl f2)))] H := hP
    have hD : va_D A [(o, .inr (4, [.ref ra, .ref va, .int 0, .long rr, .long rv])), (ra, .inl (cA 1, 40, .inr (.inl f1))), (va, .inl (cA 1, 40, .inr (.inl f2)))] := hD
    have hP9 := hP.sub (ws' := [(o, .inr (4, [.ref ra, .ref va, .int 0, .long rr, .long rv])), (ra, .inl (cA 1, 40, .inr (.inl f1))), (va, .inl (cA 1, 40, .inr (.inl f2)))]) [0, 1, 2] rfl
    have hD9 := hD.sub (ws' := [(o, .inr (4, [.ref ra, .ref va, .int 0, .long rr, .long rv])), (ra, .inl (cA 1, 40, .inr (.inl f1))), (va, .inl (cA 1, 40, .inr (.inl f2)))]) [0, 1, 2] (by decide) rfl
    have e9_0 : nI 0 = 0 := (by first | rfl | exact h1.symm | exact h2.symm)
    have e9_1 : sp_clr rows 40 = f1 := (by first | rfl | exact h1.symm | exact h2.symm)
    have e9_2 : sp_clr vals 40 = f2 := (by first | rfl | exact h1.symm | exact h2.symm)
    have e9 : ([(o, .inr (4, [.ref ra, .ref va, .int (nI 0), .long rr, .long rv])), (ra, .inl (cA 1, 40, .inr (.inl (sp_clr rows 40)))), (va, .inl (cA 1, 40, .inr (.inl (sp_clr vals 40))))] : va_W) = [(o, .inr (4, [.ref ra, .ref va, .int 0, .long rr, .long rv])), (ra, .inl (cA 1, 40, .inr (.inl f1))), (va, .inl (cA 1, 40, .inr (.inl f2)))] := by rw [e9_0, e9_1, e9_2]
    exact W.vret hx hb hr (fun t9 ht9 hW9 => ⟨⟨(), rfl, trivial, by rw [ht9, e9]; exact hP9, by rw [e9]; exact hD9⟩, hS.F ht9⟩) hS.2.2 dX4_clear_33
  · have c_1 : ¬ (40 ≤ (nI k)) := c_1
    have hk9 : k < 40 := (ku_nle (a := 40) (b := k) (by omega) (by omega)).mp c_1
    refine lv_aload_n hx hb dX4_clear_8 rfl (lv_at hl 1 rfl) ?_
    refine va_get (D := (dC, dI)) (ci := 4) (v := .ref ra) (C := RX4) (T := TX4) (N := 5) hx hb hts inX4 hown hK hP 0 rfl rfl 0 (by decide) hk_1 (fun _ h9 => h9) rfl dX4_clear_9 ?_
    refine lv_iload_n hx hb dX4_clear_12 rfl (lv_at hl 0 rfl) ?_
    refine lv_lconst (v := 0) hx hb dX4_clear_13 (by decide) ?_
    refine va_last (D := (dC, dI)) hx hb hK hP hD hS 1 1 rfl rfl (vp_in_nI hk9 (by omega)) dX4_clear_14 (fun H locs hP hD hS => ?_)
    rw [nI_clamp (by omega : k < 2 ^ 31)] at hP hD
    have hP : va_P (dC, dI) vwCl [(o, .inr (4, [.ref ra, .ref va, .int (nI rk), .long rr, .long rv])), (ra, .inl (cA 1, 40, .inr (.inl (vp_updL f1 k 0)))), (va, .inl (cA 1, 40, .inr (.inl f2)))] H := hP
    have hD : va_D A [(o, .inr (4, [.ref ra, .ref va, .int (nI rk), .long rr, .long rv])), (ra, .inl (cA 1, 40, .inr (.inl (vp_updL f1 k 0)))), (va, .inl (cA 1, 40, .inr (.inl f2)))] := hD
    refine lv_aload_n hx hb dX4_clear_15 rfl (lv_at hl 1 rfl) ?_
    refine va_get (D := (dC, dI)) (ci := 4) (v := .ref va) (C := RX4) (T := TX4) (N := 5) hx hb hts inX4 hown hK hP 0 rfl rfl 1 (by decide) hk_2 (fun _ h9 => h9) rfl dX4_clear_16 ?_
    refine lv_iload_n hx hb dX4_clear_19 rfl (lv_at hl 0 rfl) ?_
    refine lv_lconst (v := 0) hx hb dX4_clear_20 (by decide) ?_
    refine va_last (D := (dC, dI)) hx hb hK hP hD hS 2 1 rfl rfl (vp_in_nI hk9 (by omega)) dX4_clear_21 (fun H locs hP hD hS => ?_)
    rw [nI_clamp (by omega : k < 2 ^ 31)] at hP hD
    have hP : va_P (dC, dI) vwCl [(o, .inr (4, [.ref ra, .ref va, .int (nI rk), .long rr, .long rv])), (ra, .inl (cA 1, 40, .inr (.inl (vp_updL f1 k 0)))), (va, .inl (cA 1, 40, .inr (.inl (vp_updL f2 k 0))))] H := hP
    have hD : va_D A [(o, .inr (4, [.ref ra, .ref va, .int (nI rk), .long rr, .long rv])), (ra, .inl (cA 1, 40, .inr (.inl (vp_updL f1 k 0)))), (va, .inl (cA 1, 40, .inr (.inl (vp_updL f2 k 0))))] := hD
    refine lv_iinc (v := nI (k + 1)) (lv' := [(1, .int (nI (k + 1))), (0, .ref o)]) hx hb dX4_clear_22 hl (k := 0) rfl (nI_succ _).symm (by decide) rfl (fun ls hl => ?_)
    refine lv_goto (tgt := 2) hx hb dX4_clear_25 (by decide) ?_
    have hi_hk : (k + 1) ≤ 40 := (by omega)
    have hi_h1 : (vp_updL f1 k 0) = sp_clr rows (k + 1) := (by rw [h1, sp_clr_s])
    have hi_h2 : (vp_updL f2 k 0) = sp_clr vals (k + 1) := (by rw [h2, sp_clr_s])
    have hl9 : lv_has ls 2 [(1, .int (nI (k + 1))), (0, .ref o)] := lv_sub hl [0, 1] rfl
    have hP9 : va_P (dC, dI) vwCl [(o, .inr (4, [.ref ra, .ref va, .int (nI rk), .long rr, .long rv])), (ra, .inl (cA 1, 40, .inr (.inl (vp_updL f1 k 0)))), (va, .inl (cA 1, 40, .inr (.inl (vp_updL f2 k 0))))] H := hP
    have hD9 : va_D A [(o, .inr (4, [.ref ra, .ref va, .int (nI rk), .long rr, .long rv])), (ra, .inl (cA 1, 40, .inr (.inl (vp_updL f1 k 0)))), (va, .inl (cA 1, 40, .inr (.inl (vp_updL f2 k 0))))] := hD
    exact ih_L0 (k + 1) (vp_updL f1 k 0) (vp_updL f2 k 0) H locs ls ⟨hi_hk, hi_h1, hi_h2, hl9, hP9, hD9, hS⟩ (by show 40 - (k + 1) < 40 - k; omega)
set_option maxHeartbeats 4000000 in
set_option maxRecDepth 100000 in
theorem c_Span_holdsAlone (l : Launch) (dC : Nat → ClassId) (dI : Nat → Nat → Nat) (cA : Nat → ClassId) (o : Nat) (ra : Nat) (va : Nat) (rows : Nat → Int64) (rk : Nat) (rr : Int64) (rv : Int64) (i : Int32)  : Met l yX4_holdsAlone (kw_X4_holdsAlone) ({ frames := 0, cells := 0, slots := 0, locals := 0 }) (va_Pc [.ref o, .int i] (fun U => kRO dC dI cA [(o, .inr (4, [.ref ra, .ref va, .int (nI rk), .long rr, .long rv])), (ra, .inl (cA 1, 40, .inr (.inl rows)))] U)) (vp_Si (fun r => r = sp_alone rows i)) 0 0 (fun _ => False) := by
  refine Met.ofW (cc := cX4_holdsAlone) (maxL := 2) (ret := (some .boolean)) (by decide) rfl ?_
  intro p e s m args below meth c s₁ B hml hv
  obtain ⟨rfl, hP, hK, hN⟩ := hv
  have hx := B.exec
  have hb := B.bytes
  have hr := B.returns
  have hts0 := atoms_spec (ws := (kw_X4_holdsAlone)) B.pre
  have hts : ∀ w ∈ TB, w.before _ s = true := fun w h => hts0 w (List.mem_cons_of_mem _ h)
  have hown : s.vm.findClass RX4 = some m.cls := findClass_of_methodNamed B.named
  have hlocks := B.notSynchronized
  have hk_0 := hts (.fieldLink RX4 9 "FountainRows$Span" "rows" "[J") tb_92
  have hl := lv_entry ([.ref o, .int i]) (n := 2) (Nat.le_of_ble_eq_true rfl)
  rw [lg_entry_eq]
  generalize (lg_sl ([.ref o, .int i]) ++ List.replicate (2 - (lg_sl ([.ref o, .int i])).length) Slot.unset).toArray = ls at hl ⊢
  have hl : lv_has ls 2 [(0, .ref o), (1, .int i)] := hl
  refine lv_iload_n hx hb dX4_holdsAlone_0 rfl (lv_at hl 1 rfl) ?_
  refine lv_if_lt (tgt := 27) hx hb dX4_holdsAlone_1 (by decide) (fun c_1 => ?_) (fun c_1 => ?_)
  · have c_1 : i < 0 := c_1
    refine lv_iconst (v := 0) hx hb dX4_holdsAlone_27 (by decide) ?_
    exact W.zret (v := 0) hx hb hr (by decide) (fun t9 ht9 hW9 => ⟨0, rfl, (by unfold sp_alone; rw [if_pos c_1] <;> rfl), ht9⟩) (fun _ h => absurd h List.not_mem_nil) dX4_holdsAlone_28
  · have c_1 : ¬ (i < 0) := c_1
    refine lv_iload_n hx hb dX4_holdsAlone_4 rfl (lv_at hl 1 rfl) ?_
    refine lv_bipush (v := 40) hx hb dX4_holdsAlone_5 (by decide) ?_
    refine lv_icmp_ge (tgt := 27) hx hb dX4_holdsAlone_7 (by decide) (fun c_2 => ?_) (fun c_2 => ?_)
    · have c_2 : 40 ≤ i := c_2
      refine lv_iconst (v := 0) hx hb dX4_holdsAlone_27 (by decide) ?_
      exact W.zret (v := 0) hx hb hr (by decide) (fun t9 ht9 hW9 => ⟨0, rfl, (by unfold sp_alone; rw [if_neg c_1, if_pos c_2] <;> rfl), ht9⟩) (fun _ h => absurd h List.not_mem_nil) dX4_holdsAlone_28
    · have c_2 : ¬ (40 ≤ i) := c_2
      refine lv_aload_n hx hb dX4_holdsAlone_10 rfl (lv_at hl 0 rfl) ?_
      refine va_get (D := (dC, dI)) (ci := 4) (v := .ref ra) (C := RX4) (T := TX4) (N := 5) hx hb hts inX4 hown hK hP 0 rfl rfl 0 (by decide) hk_0 (fun _ h9 => h9) rfl dX4_holdsAlone_11 ?_
      refine lv_iload_n hx hb dX4_holdsAlone_14 rfl (lv_at hl 1 rfl) ?_
      refine va_lald (D := (dC, dI)) hx hb hK hP 1 1 rfl rfl (ku_in c_1 c_2 (Nat.le_refl 40) (by omega)) dX4_holdsAlone_15 ?_
      refine lv_lconst (v := 1) hx hb dX4_holdsAlone_16 (by decide) ?_
      refine lv_iload_n hx hb dX4_holdsAlone_17 rfl (lv_at hl 1 rfl) ?_
      refine lv_lshl (v := jv_lshl 1 i) hx hb dX4_holdsAlone_18 rfl ?_
      refine W.lcmp hx hb dX4_holdsAlone_19 ?_
      refine lv_if_ne (tgt := 27) hx hb dX4_holdsAlone_20 (by decide) (fun c_3 => ?_) (fun c_3 => ?_)
      · have c_3 : ¬ ((lg_cmp (rows i.toNatClampNeg) (jv_lshl 1 i)) = 0) := c_3
        refine lv_iconst (v := 0) hx hb dX4_holdsAlone_27 (by decide) ?_
        exact W.zret (v := 0) hx hb hr (by decide) (fun t9 ht9 hW9 => ⟨0, rfl, (by unfold sp_alone; rw [if_neg c_1, if_neg c_2, if_neg c_3] <;> rfl), ht9⟩) (fun _ h => absurd h List.not_mem_nil) dX4_holdsAlone_28
      · have c_3 : (lg_cmp (rows i.toNatClampNeg) (jv_lshl 1 i)) = 0 := c_3
        refine lv_iconst (v := 1) hx hb dX4_holdsAlone_23 (by decide) ?_
        refine lv_goto (tgt := 28) hx hb dX4_holdsAlone_24 (by decide) ?_
        exact W.zret (v := 1) hx hb hr (by decide) (fun t9 ht9 hW9 => ⟨1, rfl, (by unfold sp_alone; rw [if_neg c_1, if_neg c_2, if_pos c_3] <;> rfl), ht9⟩) (fun _ h => absurd h List.not_mem_nil) dX4_holdsAlone_28
set_option maxHeartbeats 4000000 in
set_option maxRecDepth 100000 in
theorem c_Span_countAlone (l : Launch) (dC : Nat → ClassId) (dI : Nat → Nat → Nat) (cA : Nat → ClassId) (o : Nat) (ra : Nat) (va : Nat) (rows : Nat → Int64) (rk : Nat) (rr : Int64) (rv : Int64)  : Met l yX4_countAlone (kw_X4_countAlone) ({ frames := 1, cells := 0, slots := 0, locals := 21 }) (va_Pc [.ref o] (fun U => kRO dC dI cA [(o, .inr (4, [.ref ra, .ref va, .int (nI rk), .long rr, .long rv])), (ra, .inl (cA 1, 40, .inr (.inl rows)))] U)) (vp_Si (fun r => r = nI (sp_cnt rows 40))) 0 0 (fun _ => False) := by
  refine Met.ofW (cc := cX4_countAlone) (maxL := 3) (ret := (some .int)) (by decide) rfl ?_
  intro p e s m args below meth c s₁ B hml hv
  obtain ⟨rfl, hP, hK, hN⟩ := hv
  have hx := B.exec
  have hb := B.bytes
  have hr := B.returns
  have hts0 := atoms_spec (ws := (kw_X4_countAlone)) B.pre
  have hts : ∀ w ∈ TB, w.before _ s = true := fun w h => hts0 w (List.mem_cons_of_mem _ h)
  have hown : s.vm.findClass RX4 = some m.cls := findClass_of_methodNamed B.named
  have hlocks := B.notSynchronized
  have hl := lv_entry ([.ref o]) (n := 3) (Nat.le_of_ble_eq_true rfl)
  rw [lg_entry_eq]
  generalize (lg_sl ([.ref o]) ++ List.replicate (3 - (lg_sl ([.ref o])).length) Slot.unset).toArray = ls at hl ⊢
  have hl : lv_has ls 3 [(0, .ref o)] := hl
  refine lv_iconst (v := 0) hx hb dX4_countAlone_0 (by decide) ?_
  refine lv_istore_n (lv' := [(1, .int 0), (0, .ref o)]) hx hb dX4_countAlone_1 rfl hl (by decide) rfl (fun ls hl => ?_)
  refine lv_iconst (v := 0) hx hb dX4_countAlone_2 (by decide) ?_
  refine lv_istore_n (lv' := [(2, .int 0), (1, .int 0), (0, .ref o)]) hx hb dX4_countAlone_3 rfl hl (by decide) rfl (fun ls hl => ?_)
  have hi_hk : 0 ≤ 40 := (by omega)
  have hi_hn9 : 0 = sp_cnt rows 0 := rfl
  have hl9 : lv_has ls 3 [(2, .int (nI 0)), (1, .int (nI 0)), (0, .ref o)] := lv_sub hl [0, 1, 2] rfl
  refine r_loop2 (I := fun (k : Nat) (n : Nat) (ls : Array Slot) => (k ≤ 40) ∧ (n = sp_cnt rows k) ∧ lv_has ls 3 [(2, .int (nI k)), (1, .int (nI n)), (0, .ref o)]) (μ := fun k n => 40 - k) ?_ 0 0 ⟨hi_hk, hi_hn9, hl9⟩
  intro k n ls hI9 ih_L0
  obtain ⟨hk, hn9, hl⟩ := hI9
  refine lv_iload_n hx hb dX4_countAlone_4 rfl (lv_at hl 0 rfl) ?_
  refine lv_bipush (v := 40) hx hb dX4_countAlone_5 (by decide) ?_
  refine lv_icmp_ge (tgt := 27) hx hb dX4_countAlone_7 (by decide) (fun c_1 => ?_) (fun c_1 => ?_)
  · have c_1 : 40 ≤ (nI k) := c_1
    have hk9 : 40 ≤ k := (ku_le (a := 40) (b := k) (by omega) (by omega)).mp c_1
    refine lv_iload_n hx hb dX4_countAlone_27 rfl (lv_at hl 1 rfl) ?_
    exact W.iret (v := nI n) hx hb hr (fun t9 ht9 hW9 => ⟨nI n, rfl, (by have e : k = 40 := (by omega); rw [hn9, e]), ht9⟩) (fun _ h => absurd h List.not_mem_nil) dX4_countAlone_28
  · have c_1 : ¬ (40 ≤ (nI k)) := c_1
    have hk9 : k < 40 := (ku_nle (a := 40) (b := k) (by omega) (by omega)).mp c_1
    refine lv_aload_n hx hb dX4_countAlone_10 rfl (lv_at hl 2 rfl) ?_
    refine lv_iload_n hx hb dX4_countAlone_11 rfl (lv_at hl 0 rfl) ?_
    have hPc := hP.sub (ws' := [(o, .inr (4, [.ref ra, .ref va, .int (nI rk), .long rr, .long rv])), (ra, .inl (cA 1, 40, .inr (.inl rows)))]) [0, 1] rfl
    refine kq_csi (va_runV (As := [.int (nI k)]) (rest := []) ⟨hx, hb, hml, hown, hts⟩ (c_Span_holdsAlone l dC dI cA o ra va rows rk rr rv (nI k)) (cwV 1 hts (kg_V tb_95 tb_96 tb_97 tb_98 tb_94) rfl rfl rfl (by decide +kernel) ⟨Nat.le_of_ble_eq_true rfl, Nat.le_of_ble_eq_true rfl⟩) (kpv_ro hK hN hPc (ci := 4) (q0 := 0) rfl rfl rfl) rfl rfl hl.1 rfl (lv_room (Nat.le_of_ble_eq_true rfl)) dX4_countAlone_12 ⟨Nat.le_of_ble_eq_true rfl, Nat.le_of_ble_eq_true rfl⟩) (fun r_2 hr_2 => ?_)
    subst hr_2
    refine lv_if_eq (tgt := 21) hx hb dX4_countAlone_15 (by decide) (fun c_3 => ?_) (fun c_3 => ?_)
    · have c_3 : (sp_alone rows (nI k)) = 0 := c_3
      refine lv_iinc (v := nI (k + 1)) (lv' := [(2, .int (nI (k + 1))), (1, .int (nI n)), (0, .ref o)]) hx hb dX4_countAlone_21 hl (k := 0) rfl (nI_succ _).symm (by decide) rfl (fun ls hl => ?_)
      refine lv_goto (tgt := 4) hx hb dX4_countAlone_24 (by decide) ?_
      have hi_hk : (k + 1) ≤ 40 := (by omega)
      have hi_hn9 : n = sp_cnt rows (k + 1) := (by subst hn9; exact (if_pos c_3).symm)
      have hl9 : lv_has ls 3 [(2, .int (nI (k + 1))), (1, .int (nI n)), (0, .ref o)] := lv_sub hl [0, 1, 2] rfl
      exact ih_L0 (k + 1) n ls ⟨hi_hk, hi_hn9, hl9⟩ (by show 40 - (k + 1) < 40 - k; omega)
    · have c_3 : ¬ ((sp_alone rows (nI k)) = 0) := c_3
      refine lv_iinc (v := nI (n + 1)) (lv' := [(1, .int (nI (n + 1))), (2, .int (nI k)), (0, .ref o)]) hx hb dX4_countAlone_18 hl (k := 1) rfl (nI_succ _).symm (by decide) rfl (fun ls hl => ?_)
      refine lv_iinc (v := nI (k + 1)) (lv' := [(2, .int (nI (k + 1))), (1, .int (nI (n + 1))), (0, .ref o)]) hx hb dX4_countAlone_21 hl (k := 1) rfl (nI_succ _).symm (by decide) rfl (fun ls hl => ?_)
      refine lv_goto (tgt := 4) hx hb dX4_countAlone_24 (by decide) ?_
      have hi_hk : (k + 1) ≤ 40 := (by omega)
      have hi_hn9 : (n + 1) = sp_cnt rows (k + 1) := (by subst hn9; exact (if_neg c_3).symm)
      have hl9 : lv_has ls 3 [(2, .int (nI (k + 1))), (1, .int (nI (n + 1))), (0, .ref o)] := lv_sub hl [0, 1, 2] rfl
      exact ih_L0 (k + 1) (n + 1) ls ⟨hi_hk, hi_hn9, hl9⟩ (by show 40 - (k + 1) < 40 - k; omega)
set_option maxHeartbeats 4000000 in
set_option maxRecDepth 100000 in
theorem c_Span_reduce (l : Launch) (dC : Nat → ClassId) (dI : Nat → Nat → Nat) (cA : Nat → ClassId) (sz : Nat) (o : Nat) (ra : Nat) (va : Nat) (rows : Nat → Int64) (vals : Nat → Int64) (rk : Nat) (rr : Int64) (rv : Int64) (row : Int64) (val : Int64)  : Met l yX4_reduce (kw_X4_reduce) ({ frames := 1, cells := 0, slots := 0, locals := 22 }) (va_Pc [.ref o, .long row, .long val] (fun U => kRW dC dI cA [(o, .inr (4, [.ref ra, .ref va, .int (nI rk), .long rr, .long rv])), (ra, .inl (cA 1, 40, .inr (.inl rows))), (va, .inl (cA 1, 40, .inr (.inl vals)))] sz U)) (va_Qv (fun (u : Unit) => True) (fun (u : Unit) t => kB dC dI (va_A [(o, .inr (4, [.ref ra, .ref va, .int (nI rk), .long rr, .long rv])), (ra, .inl (cA 1, 40, .inr (.inl rows))), (va, .inl (cA 1, 40, .inr (.inl vals)))] sz) [(o, .inr (4, [.ref ra, .ref va, .int (nI rk), .long (sp_red rows row 40), .long (sp_redv rows vals row val 40)])), (ra, .inl (cA 1, 40, .inr (.inl rows))), (va, .inl (cA 1, 40, .inr (.inl vals)))] t) (va_A [(o, .inr (4, [.ref ra, .ref va, .int (nI rk), .long rr, .long rv])), (ra, .inl (cA 1, 40, .inr (.inl rows))), (va, .inl (cA 1, 40, .inr (.inl vals)))] sz)) 0 0 (va_A [(o, .inr (4, [.ref ra, .ref va, .int (nI rk), .long rr, .long rv])), (ra, .inl (cA 1, 40, .inr (.inl rows))), (va, .inl (cA 1, 40, .inr (.inl vals)))] sz) := by
  refine Met.ofW (cc := cX4_reduce) (maxL := 6) (ret := none) (by decide) rfl ?_
  intro p e s m args below meth c s₁ B hml hv
  obtain ⟨rfl, hsz, hP, hK, hN, hD0⟩ := hv
  have hx := B.exec
  have hb := B.bytes
  have hr := B.returns
  have hts0 := atoms_spec (ws := (kw_X4_reduce)) B.pre
  have hts : ∀ w ∈ TB, w.before _ s = true := fun w h => hts0 w (List.mem_cons_of_mem _ h)
  have hown : s.vm.findClass RX4 = some m.cls := findClass_of_methodNamed B.named
  have hlocks := B.notSynchronized
  subst hsz
  have hD := hD0.self (sz := s.heap.size)
  generalize hAe : va_A [(o, .inr (4, [.ref ra, .ref va, .int (nI rk), .long rr, .long rv])), (ra, .inl (cA 1, 40, .inr (.inl rows))), (va, .inl (cA 1, 40, .inr (.inl vals)))] s.heap.size = A at hD ⊢
  have hA : ∀ q : Nat, s.heap.size ≤ q → A q := fun q h => by rw [← hAe]; exact Or.inr h
  have hS : va_S A s.heap s.heap [] := va_S.rf
  have hk_0 := hts (.fieldLink RX4 26 "FountainRows$Span" "restRow" "J") tb_99
  have hk_1 := hts (.fieldLink RX4 30 "FountainRows$Span" "restValue" "J") tb_100
  have hk_2 := hts (.fieldLink RX4 9 "FountainRows$Span" "rows" "[J") tb_92
  have hk_3 := hts (.fieldLink RX4 15 "FountainRows$Span" "values" "[J") tb_93
  have hl := lv_entry ([.ref o, .long row, .long val]) (n := 6) (Nat.le_of_ble_eq_true rfl)
  rw [lg_entry_eq]
  generalize (lg_sl ([.ref o, .long row, .long val]) ++ List.replicate (6 - (lg_sl ([.ref o, .long row, .long val])).length) Slot.unset).toArray = ls at hl ⊢
  have hl : lv_has ls 6 [(0, .ref o), (1, .long row), (3, .long val)] := hl
  refine lv_aload_n hx hb dX4_reduce_0 rfl (lv_at hl 0 rfl) ?_
  refine lv_lload_n hx hb dX4_reduce_1 rfl (lv_at hl 1 rfl) ?_
  refine va_put (D := (dC, dI)) (ci := 4) (v := .long row) (ty := .long) (C := RX4) (T := TX4) (N := 5) hx hb hts inX4 tyX4 tyX4_ok nmX4 hown hK hP hD hS 0 rfl rfl 3 (by decide) hk_0 (fun _ h9 => h9) rfl (by decide +kernel) rfl rfl (Nat.le_of_ble_eq_true rfl) dX4_reduce_2 (fun H locs hP hD hS => ?_)
  have hP : va_P (dC, dI) vwCl [(o, .inr (4, [.ref ra, .ref va, .int (nI rk), .long row, .long rv])), (ra, .inl (cA 1, 40, .inr (.inl rows))), (va, .inl (cA 1, 40, .inr (.inl vals)))] H := hP
  have hD : va_D A [(o, .inr (4, [.ref ra, .ref va, .int (nI rk), .long row, .long rv])), (ra, .inl (cA 1, 40, .inr (.inl rows))), (va, .inl (cA 1, 40, .inr (.inl vals)))] := hD
  refine lv_aload_n hx hb dX4_reduce_5 rfl (lv_at hl 0 rfl) ?_
  refine lv_lload_n hx hb dX4_reduce_6 rfl (lv_at hl 2 rfl) ?_
  refine va_put (D := (dC, dI)) (ci := 4) (v := .long val) (ty := .long) (C := RX4) (T := TX4) (N := 5) hx hb hts inX4 tyX4 tyX4_ok nmX4 hown hK hP hD hS 0 rfl rfl 4 (by decide) hk_1 (fun _ h9 => h9) rfl (by decide +kernel) rfl rfl (Nat.le_of_ble_eq_true rfl) dX4_reduce_7 (fun H locs hP hD hS => ?_)
  have hP : va_P (dC, dI) vwCl [(o, .inr (4, [.ref ra, .ref va, .int (nI rk), .long row, .long val])), (ra, .inl (cA 1, 40, .inr (.inl rows))), (va, .inl (cA 1, 40, .inr (.inl vals)))] H := hP
  have hD : va_D A [(o, .inr (4, [.ref ra, .ref va, .int (nI rk), .long row, .long val])), (ra, .inl (cA 1, 40, .inr (.inl rows))), (va, .inl (cA 1, 40, .inr (.inl vals)))] := hD
  refine lv_iconst (v := 0) hx hb dX4_reduce_10 (by decide) ?_
  refine lv_istore (lv' := [(5, .int 0), (0, .ref o), (1, .long row), (3, .long val)]) hx hb dX4_reduce_11 hl (by decide) rfl (fun ls hl => ?_)
  have hi_hk : 0 ≤ 40 := (by omega)
  have hi_h1 : row = sp_red rows row 0 := rfl
  have hi_h2 : val = sp_redv rows vals row val 0 := rfl
  have hl9 : lv_has ls 6 [(5, .int (nI 0)), (0, .ref o), (1, .long row), (3, .long val)] := lv_sub hl [0, 1, 2, 3] rfl
  refine k_loop3 (I := fun (k : Nat) (r1 : Int64) (v1 : Int64) (H : Heap) (locs : List Loc) (ls : Array Slot) => (k ≤ 40) ∧ (r1 = sp_red rows row k) ∧ (v1 = sp_redv rows vals row val k) ∧ lv_has ls 6 [(5, .int (nI k)), (0, .ref o), (1, .long row), (3, .long val)] ∧ va_P (dC, dI) vwCl [(o, .inr (4, [.ref ra, .ref va, .int (nI rk), .long r1, .long v1])), (ra, .inl (cA 1, 40, .inr (.inl rows))), (va, .inl (cA 1, 40, .inr (.inl vals)))] H ∧ va_D A [(o, .inr (4, [.ref ra, .ref va, .int (nI rk), .long r1, .long v1])), (ra, .inl (cA 1, 40, .inr (.inl rows))), (va, .inl (cA 1, 40, .inr (.inl vals)))] ∧ va_S A s.heap H locs) (μ := fun k r1 v1 => 40 - k) ?_ 0 row val ⟨hi_hk, hi_h1, hi_h2, hl9, hP, hD, hS⟩
  intro k r1 v1 H locs ls hI9 ih_L0
  obtain ⟨hk, h1, h2, hl, hP, hD, hS⟩ := hI9
  refine lv_iload hx hb dX4_reduce_13 (lv_at hl 0 rfl) ?_
  refine lv_bipush (v := 40) hx hb dX4_reduce_15 (by decide) ?_
  refine lv_icmp_ge (tgt := 79) hx hb dX4_reduce_17 (by decide) (fun c_1 => ?_) (fun c_1 => ?_)
  · have c_1 : 40 ≤ (nI k) := c_1
    have hk9 : 40 ≤ k := (ku_le (a := 40) (b := k) (by omega) (by omega)).mp c_1
    have e40 : k = 40 := by omega
    subst e40
    have hP9 := hP.sub (ws' := [(o, .inr (4, [.ref ra, .ref va, .int (nI rk), .long r1, .long v1])), (ra, .inl (cA 1, 40, .inr (.inl rows))), (va, .inl (cA 1, 40, .inr (.inl vals)))]) [0, 1, 2] rfl
    have hD9 := hD.sub (ws' := [(o, .inr (4, [.ref ra, .ref va, .int (nI rk), .long r1, .long v1])), (ra, .inl (cA 1, 40, .inr (.inl rows))), (va, .inl (cA 1, 40, .inr (.inl vals)))]) [0, 1, 2] (by decide) rfl
    have e9_0 : sp_red rows row 40 = r1 := (by first | exact h1.symm | exact h2.symm)
    have e9_1 : sp_redv rows vals row val 40 = v1 := (by first | exact h1.symm | exact h2.symm)
    have e9 : ([(o, .inr (4, [.ref ra, .ref va, .int (nI rk), .long (sp_red rows row 40), .long (sp_redv rows vals row val 40)])), (ra, .inl (cA 1, 40, .inr (.inl rows))), (va, .inl (cA 1, 40, .inr (.inl vals)))] : va_W) = [(o, .inr (4, [.ref ra, .ref va, .int (nI rk), .long r1, .long v1])), (ra, .inl (cA 1, 40, .inr (.inl rows))), (va, .inl (cA 1, 40, .inr (.inl vals)))] := by rw [e9_0, e9_1]
    exact W.vret hx hb hr (fun t9 ht9 hW9 => ⟨⟨(), rfl, trivial, by rw [ht9, e9]; exact hP9, by rw [e9]; exact hD9⟩, hS.F ht9⟩) hS.2.2 dX4_reduce_79
  · have c_1 : ¬ (40 ≤ (nI k)) := c_1
    have hk9 : k < 40 := (ku_nle (a := 40) (b := k) (by omega) (by omega)).mp c_1
    refine lv_aload_n hx hb dX4_reduce_20 rfl (lv_at hl 1 rfl) ?_
    refine va_get (D := (dC, dI)) (ci := 4) (v := .ref ra) (C := RX4) (T := TX4) (N := 5) hx hb hts inX4 hown hK hP 0 rfl rfl 0 (by decide) hk_2 (fun _ h9 => h9) rfl dX4_reduce_21 ?_
    refine lv_iload hx hb dX4_reduce_24 (lv_at hl 0 rfl) ?_
    refine va_lald (D := (dC, dI)) hx hb hK hP 1 1 rfl rfl (vp_in_nI hk9 (by omega)) dX4_reduce_26 ?_
    refine kt_l (congrArg rows (nI_clamp (by omega : k < 2 ^ 31))) ?_
    refine lv_lconst (v := 0) hx hb dX4_reduce_27 (by decide) ?_
    refine W.lcmp hx hb dX4_reduce_28 ?_
    refine lv_if_eq (tgt := 73) hx hb dX4_reduce_29 (by decide) (fun c_2 => ?_) (fun c_2 => ?_)
    · have c_2 : (lg_cmp (rows k) 0) = 0 := c_2
      refine lv_iinc (v := nI (k + 1)) (lv' := [(5, .int (nI (k + 1))), (0, .ref o), (1, .long row), (3, .long val)]) hx hb dX4_reduce_73 hl (k := 0) rfl (nI_succ _).symm (by decide) rfl (fun ls hl => ?_)
      refine lv_goto (tgt := 13) hx hb dX4_reduce_76 (by decide) ?_
      have hi_hk : (k + 1) ≤ 40 := (by omega)
      have hi_h1 : r1 = sp_red rows row (k + 1) := (by subst h1; exact (if_pos c_2).symm)
      have hi_h2 : v1 = sp_redv rows vals row val (k + 1) := (by subst h2; exact (if_pos c_2).symm)
      have hl9 : lv_has ls 6 [(5, .int (nI (k + 1))), (0, .ref o), (1, .long row), (3, .long val)] := lv_sub hl [0, 1, 2, 3] rfl
      have hP9 : va_P (dC, dI) vwCl [(o, .inr (4, [.ref ra, .ref va, .int (nI rk), .long r1, .long v1])), (ra, .inl (cA 1, 40, .inr (.inl rows))), (va, .inl (cA 1, 40, .inr (.inl vals)))] H := hP
      have hD9 : va_D A [(o, .inr (4, [.ref ra, .ref va, .int (nI rk), .long r1, .long v1])), (ra, .inl (cA 1, 40, .inr (.inl rows))), (va, .inl (cA 1, 40, .inr (.inl vals)))] := hD
      exact ih_L0 (k + 1) r1 v1 H locs ls ⟨hi_hk, hi_h1, hi_h2, hl9, hP9, hD9, hS⟩ (by show 40 - (k + 1) < 40 - k; omega)
    · have c_2 : ¬ ((lg_cmp (rows k) 0) = 0) := c_2
      refine lv_lload_n hx hb dX4_reduce_32 rfl (lv_at hl 2 rfl) ?_
      refine lv_iload hx hb dX4_reduce_33 (lv_at hl 0 rfl) ?_
      have hPc := hP.sub (ws' := []) [] rfl
      refine kq_csi (va_runSN (As := [.long row, .int (nI k)]) (rest := []) ⟨hx, hb, hml, hown, hts⟩ (c_FountainRows_hasBit l dC dI cA row (nI k)) ⟨va_cnB 2 hts (kg_I tb_53) rfl rfl rfl (hN.2 (RX4, 37, yX5_hasBit, "FountainRows") (List.mem_of_getElem? (i := 5) rfl)) (hts _ tb_54) (by decide +kernel) ⟨Nat.le_of_ble_eq_true rfl, Nat.le_of_ble_eq_true rfl⟩, hts _ tb_55, trivial⟩ (kps_ro hK hN hPc) rfl rfl hl.1 rfl (lv_room (Nat.le_of_ble_eq_true rfl)) dX4_reduce_35 ⟨Nat.le_of_ble_eq_true rfl, Nat.le_of_ble_eq_true rfl⟩) (fun r_3 hr_3 => ?_)
      subst hr_3
      refine lv_if_eq (tgt := 73) hx hb dX4_reduce_38 (by decide) (fun c_4 => ?_) (fun c_4 => ?_)
      · have c_4 : (sp_bit row (nI k)) = 0 := c_4
        refine lv_iinc (v := nI (k + 1)) (lv' := [(5, .int (nI (k + 1))), (0, .ref o), (1, .long row), (3, .long val)]) hx hb dX4_reduce_73 hl (k := 0) rfl (nI_succ _).symm (by decide) rfl (fun ls hl => ?_)
        refine lv_goto (tgt := 13) hx hb dX4_reduce_76 (by decide) ?_
        have hi_hk : (k + 1) ≤ 40 := (by omega)
        have hi_h1 : r1 = sp_red rows row (k + 1) := (by subst h1; exact ((if_neg c_2).trans (if_pos c_4)).symm)
        have hi_h2 : v1 = sp_redv rows vals row val (k + 1) := (by subst h2; exact ((if_neg c_2).trans (if_pos c_4)).symm)
        have hl9 : lv_has ls 6 [(5, .int (nI (k + 1))), (0, .ref o), (1, .long row), (3, .long val)] := lv_sub hl [0, 1, 2, 3] rfl
        have hP9 : va_P (dC, dI) vwCl [(o, .inr (4, [.ref ra, .ref va, .int (nI rk), .long r1, .long v1])), (ra, .inl (cA 1, 40, .inr (.inl rows))), (va, .inl (cA 1, 40, .inr (.inl vals)))] H := hP
        have hD9 : va_D A [(o, .inr (4, [.ref ra, .ref va, .int (nI rk), .long r1, .long v1])), (ra, .inl (cA 1, 40, .inr (.inl rows))), (va, .inl (cA 1, 40, .inr (.inl vals)))] := hD
        exact ih_L0 (k + 1) r1 v1 H locs ls ⟨hi_hk, hi_h1, hi_h2, hl9, hP9, hD9, hS⟩ (by show 40 - (k + 1) < 40 - k; omega)
      · have c_4 : ¬ ((sp_bit row (nI k)) = 0) := c_4
        refine lv_aload_n hx hb dX4_reduce_41 rfl (lv_at hl 1 rfl) ?_
        refine lv_dup hx hb dX4_reduce_42 rfl ?_
        refine va_get (D := (dC, dI)) (ci := 4) (v := .long r1) (C := RX4) (T := TX4) (N := 5) hx hb hts inX4 hown hK hP 0 rfl rfl 3 (by decide) hk_0 (fun _ h9 => h9) rfl dX4_reduce_43 ?_
        refine lv_aload_n hx hb dX4_reduce_46 rfl (lv_at hl 1 rfl) ?_
        refine va_get (D := (dC, dI)) (ci := 4) (v := .ref ra) (C := RX4) (T := TX4) (N := 5) hx hb hts inX4 hown hK hP 0 rfl rfl 0 (by decide) hk_2 (fun _ h9 => h9) rfl dX4_reduce_47 ?_
        refine lv_iload hx hb dX4_reduce_50 (lv_at hl 0 rfl) ?_
        refine va_lald (D := (dC, dI)) hx hb hK hP 1 1 rfl rfl (vp_in_nI hk9 (by omega)) dX4_reduce_52 ?_
        refine kt_l (congrArg rows (nI_clamp (by omega : k < 2 ^ 31))) ?_
        refine lv_lxor hx hb dX4_reduce_53 ?_
        refine va_put (D := (dC, dI)) (ci := 4) (v := .long (r1 ^^^ (rows k))) (ty := .long) (C := RX4) (T := TX4) (N := 5) hx hb hts inX4 tyX4 tyX4_ok nmX4 hown hK hP hD hS 0 rfl rfl 3 (by decide) hk_0 (fun _ h9 => h9) rfl (by decide +kernel) rfl rfl (Nat.le_of_ble_eq_true rfl) dX4_reduce_54 (fun H locs hP hD hS => ?_)
        have hP : va_P (dC, dI) vwCl [(o, .inr (4, [.ref ra, .ref va, .int (nI rk), .long (r1 ^^^ (rows k)), .long v1])), (ra, .inl (cA 1, 40, .inr (.inl rows))), (va, .inl (cA 1, 40, .inr (.inl vals)))] H := hP
        have hD : va_D A [(o, .inr (4, [.ref ra, .ref va, .int (nI rk), .long (r1 ^^^ (rows k)), .long v1])), (ra, .inl (cA 1, 40, .inr (.inl rows))), (va, .inl (cA 1, 40, .inr (.inl vals)))] := hD
        refine lv_aload_n hx hb dX4_reduce_57 rfl (lv_at hl 1 rfl) ?_
        refine lv_dup hx hb dX4_reduce_58 rfl ?_
        refine va_get (D := (dC, dI)) (ci := 4) (v := .long v1) (C := RX4) (T := TX4) (N := 5) hx hb hts inX4 hown hK hP 0 rfl rfl 4 (by decide) hk_1 (fun _ h9 => h9) rfl dX4_reduce_59 ?_
        refine lv_aload_n hx hb dX4_reduce_62 rfl (lv_at hl 1 rfl) ?_
        refine va_get (D := (dC, dI)) (ci := 4) (v := .ref va) (C := RX4) (T := TX4) (N := 5) hx hb hts inX4 hown hK hP 0 rfl rfl 1 (by decide) hk_3 (fun _ h9 => h9) rfl dX4_reduce_63 ?_
        refine lv_iload hx hb dX4_reduce_66 (lv_at hl 0 rfl) ?_
        refine va_lald (D := (dC, dI)) hx hb hK hP 2 1 rfl rfl (vp_in_nI hk9 (by omega)) dX4_reduce_68 ?_
        refine kt_l (congrArg vals (nI_clamp (by omega : k < 2 ^ 31))) ?_
        refine lv_lxor hx hb dX4_reduce_69 ?_
        refine va_put (D := (dC, dI)) (ci := 4) (v := .long (v1 ^^^ (vals k))) (ty := .long) (C := RX4) (T := TX4) (N := 5) hx hb hts inX4 tyX4 tyX4_ok nmX4 hown hK hP hD hS 0 rfl rfl 4 (by decide) hk_1 (fun _ h9 => h9) rfl (by decide +kernel) rfl rfl (Nat.le_of_ble_eq_true rfl) dX4_reduce_70 (fun H locs hP hD hS => ?_)
        have hP : va_P (dC, dI) vwCl [(o, .inr (4, [.ref ra, .ref va, .int (nI rk), .long (r1 ^^^ (rows k)), .long (v1 ^^^ (vals k))])), (ra, .inl (cA 1, 40, .inr (.inl rows))), (va, .inl (cA 1, 40, .inr (.inl vals)))] H := hP
        have hD : va_D A [(o, .inr (4, [.ref ra, .ref va, .int (nI rk), .long (r1 ^^^ (rows k)), .long (v1 ^^^ (vals k))])), (ra, .inl (cA 1, 40, .inr (.inl rows))), (va, .inl (cA 1, 40, .inr (.inl vals)))] := hD
        refine lv_iinc (v := nI (k + 1)) (lv' := [(5, .int (nI (k + 1))), (0, .ref o), (1, .long row), (3, .long val)]) hx hb dX4_reduce_73 hl (k := 0) rfl (nI_succ _).symm (by decide) rfl (fun ls hl => ?_)
        refine lv_goto (tgt := 13) hx hb dX4_reduce_76 (by decide) ?_
        have hi_hk : (k + 1) ≤ 40 := (by omega)
        have hi_h1 : (r1 ^^^ (rows k)) = sp_red rows row (k + 1) := (by subst h1; exact ((if_neg c_2).trans (if_neg c_4)).symm)
        have hi_h2 : (v1 ^^^ (vals k)) = sp_redv rows vals row val (k + 1) := (by subst h2; exact ((if_neg c_2).trans (if_neg c_4)).symm)
        have hl9 : lv_has ls 6 [(5, .int (nI (k + 1))), (0, .ref o), (1, .long row), (3, .long val)] := lv_sub hl [0, 1, 2, 3] rfl
        have hP9 : va_P (dC, dI) vwCl [(o, .inr (4, [.ref ra, .ref va, .int (nI rk), .long (r1 ^^^ (rows k)), .long (v1 ^^^ (vals k))])), (ra, .inl (cA 1, 40, .inr (.inl rows))), (va, .inl (cA 1, 40, .inr (.inl vals)))] H := hP
        have hD9 : va_D A [(o, .inr (4, [.ref ra, .ref va, .int (nI rk), .long (r1 ^^^ (rows k)), .long (v1 ^^^ (vals k))])), (ra, .inl (cA 1, 40, .inr (.inl rows))), (va, .inl (cA 1, 40, .inr (.inl vals)))] := hD
        exact ih_L0 (k + 1) (r1 ^^^ (rows k)) (v1 ^^^ (vals k)) H locs ls ⟨hi_hk, hi_h1, hi_h2, hl9, hP9, hD9, hS⟩ (by show 40 - (k + 1) < 40 - k; omega)
set_option maxHeartbeats 4000000 in
set_option maxRecDepth 100000 in
theorem c_Span_contradicts (l : Launch) (dC : Nat → ClassId) (dI : Nat → Nat → Nat) (cA : Nat → ClassId) (sz : Nat) (o : Nat) (ra : Nat) (va : Nat) (rows : Nat → Int64) (vals : Nat → Int64) (rk : Nat) (rr : Int64) (rv : Int64) (row : Int64) (val : Int64)  : Met l yX4_contradicts (kw_X4_contradicts) ({ frames := 2, cells := 0, slots := 0, locals := 47 }) (va_Pc [.ref o, .long row, .long val] (fun U => kRW dC dI cA [(o, .inr (4, [.ref ra, .ref va, .int (nI rk), .long rr, .long rv])), (ra, .inl (cA 1, 40, .inr (.inl rows))), (va, .inl (cA 1, 40, .inr (.inl vals)))] sz U)) (va_Qi (fun r (u : Unit) => r = sp_contra rows vals row val) (fun (u : Unit) t => kB dC dI (va_A [(o, .inr (4, [.ref ra, .ref va, .int (nI rk), .long rr, .long rv])), (ra, .inl (cA 1, 40, .inr (.inl rows))), (va, .inl (cA 1, 40, .inr (.inl vals)))] sz) [(o, .inr (4, [.ref ra, .ref va, .int (nI rk), .long (sp_red rows row 40), .long (sp_redv rows vals row val 40)])), (ra, .inl (cA 1, 40, .inr (.inl rows))), (va, .inl (cA 1, 40, .inr (.inl vals)))] t) (va_A [(o, .inr (4, [.ref ra, .ref va, .int (nI rk), .long rr, .long rv])), (ra, .inl (cA 1, 40, .inr (.inl rows))), (va, .inl (cA 1, 40, .inr (.inl vals)))] sz)) 0 0 (va_A [(o, .inr (4, [.ref ra, .ref va, .int (nI rk), .long rr, .long rv])), (ra, .inl (cA 1, 40, .inr (.inl rows))), (va, .inl (cA 1, 40, .inr (.inl vals)))] sz) := by
  refine Met.ofW (cc := cX4_contradicts) (maxL := 5) (ret := (some .boolean)) (by decide) rfl ?_
  intro p e s m args below meth c s₁ B hml hv
  obtain ⟨rfl, hsz, hP, hK, hN, hD0⟩ := hv
  have hx := B.exec
  have hb := B.bytes
  have hr := B.returns
  have hts0 := atoms_spec (ws := (kw_X4_contradicts)) B.pre
  have hts : ∀ w ∈ TB, w.before _ s = true := fun w h => hts0 w (List.mem_cons_of_mem _ h)
  have hown : s.vm.findClass RX4 = some m.cls := findClass_of_methodNamed B.named
  have hlocks := B.notSynchronized
  subst hsz
  have hD := hD0.self (sz := s.heap.size)
  generalize hAe : va_A [(o, .inr (4, [.ref ra, .ref va, .int (nI rk), .long rr, .long rv])), (ra, .inl (cA 1, 40, .inr (.inl rows))), (va, .inl (cA 1, 40, .inr (.inl vals)))] s.heap.size = A at hD ⊢
  have hA : ∀ q : Nat, s.heap.size ≤ q → A q := fun q h => by rw [← hAe]; exact Or.inr h
  have hS : va_S A s.heap s.heap [] := va_S.rf
  have hk_0 := hts (.fieldLink RX4 26 "FountainRows$Span" "restRow" "J") tb_99
  have hk_1 := hts (.fieldLink RX4 30 "FountainRows$Span" "restValue" "J") tb_100
  have hl := lv_entry ([.ref o, .long row, .long val]) (n := 5) (Nat.le_of_ble_eq_true rfl)
  rw [lg_entry_eq]
  generalize (lg_sl ([.ref o, .long row, .long val]) ++ List.replicate (5 - (lg_sl ([.ref o, .long row, .long val])).length) Slot.unset).toArray = ls at hl ⊢
  have hl : lv_has ls 5 [(0, .ref o), (1, .long row), (3, .long val)] := hl
  refine lv_aload_n hx hb dX4_contradicts_0 rfl (lv_at hl 0 rfl) ?_
  refine lv_lload_n hx hb dX4_contradicts_1 rfl (lv_at hl 1 rfl) ?_
  refine lv_lload_n hx hb dX4_contradicts_2 rfl (lv_at hl 2 rfl) ?_
  have hPc := hP.sub (ws' := [(o, .inr (4, [.ref ra, .ref va, .int (nI rk), .long rr, .long rv])), (ra, .inl (cA 1, 40, .inr (.inl rows))), (va, .inl (cA 1, 40, .inr (.inl vals)))]) [0, 1, 2] rfl
  have hDc := hD.sub (ws' := [(o, .inr (4, [.ref ra, .ref va, .int (nI rk), .long rr, .long rv])), (ra, .inl (cA 1, 40, .inr (.inl rows))), (va, .inl (cA 1, 40, .inr (.inl vals)))]) [0, 1, 2] (by decide) rfl
  have hFc := va_free (wc := [(o, .inr (4, [.ref ra, .ref va, .int (nI rk), .long rr, .long rv])), (ra, .inl (cA 1, 40, .inr (.inl rows))), (va, .inl (cA 1, 40, .inr (.inl vals)))]) hD hS hA [0, 1, 2] rfl
  refine va_callv (va_runV (As := [.long row, .long val]) (rest := []) ⟨hx, hb, hml, hown, hts⟩ (c_Span_reduce l dC dI cA s.heap.size o ra va rows vals rk rr rv row val) (cwV 2 hts (kg_V tb_102 tb_103 tb_104 tb_98 tb_101) rfl rfl rfl (by decide +kernel) ⟨Nat.le_of_ble_eq_true rfl, Nat.le_of_ble_eq_true rfl⟩) (kpv_rw hK hN hPc hDc (ci := 4) (q0 := 0) rfl rfl rfl) rfl rfl hl.1 rfl (lv_room (Nat.le_of_ble_eq_true rfl)) dX4_contradicts_3 ⟨Nat.le_of_ble_eq_true rfl, Nat.le_of_ble_eq_true rfl⟩) hS (fun q _ h => hFc q h) hFc (fun u9 t9 H1 locs ht9 hvm9 hr_1 hB hz1 hk1 hS => ?_)
  obtain ⟨hP1, hD1⟩ := hB
  rw [ht9] at hP1
  obtain ⟨hP, hD⟩ := va_join (wr := []) (w1 := [(o, .inr (4, [.ref ra, .ref va, .int (nI rk), .long (sp_red rows row 40), .long (sp_redv rows vals row val 40)])), (ra, .inl (cA 1, 40, .inr (.inl rows))), (va, .inl (cA 1, 40, .inr (.inl vals)))]) hP hD [0, 1, 2] [] rfl rfl (by decide) (by decide) hk1 hFc hP1 hD1
  generalize H1 = H at hP hS ⊢
  have hP : va_P (dC, dI) vwCl [(o, .inr (4, [.ref ra, .ref va, .int (nI rk), .long (sp_red rows row 40), .long (sp_redv rows vals row val 40)])), (ra, .inl (cA 1, 40, .inr (.inl rows))), (va, .inl (cA 1, 40, .inr (.inl vals)))] H := hP
  have hD : va_D A [(o, .inr (4, [.ref ra, .ref va, .int (nI rk), .long (sp_red rows row 40), .long (sp_redv rows vals row val 40)])), (ra, .inl (cA 1, 40, .inr (.inl rows))), (va, .inl (cA 1, 40, .inr (.inl vals)))] := hD
  refine lv_aload_n hx hb dX4_contradicts_6 rfl (lv_at hl 0 rfl) ?_
  refine va_get (D := (dC, dI)) (ci := 4) (v := .long (sp_red rows row 40)) (C := RX4) (T := TX4) (N := 5) hx hb hts inX4 hown hK hP 0 rfl rfl 3 (by decide) hk_0 (fun _ h9 => h9) rfl dX4_contradicts_7 ?_
  refine lv_lconst (v := 0) hx hb dX4_contradicts_10 (by decide) ?_
  refine W.lcmp hx hb dX4_contradicts_11 ?_
  refine lv_if_ne (tgt := 28) hx hb dX4_contradicts_12 (by decide) (fun c_2 => ?_) (fun c_2 => ?_)
  · have c_2 : ¬ ((lg_cmp (sp_red rows row 40) 0) = 0) := c_2
    refine lv_iconst (v := 0) hx hb dX4_contradicts_28 (by decide) ?_
    have hP9 := hP.sub (ws' := [(o, .inr (4, [.ref ra, .ref va, .int (nI rk), .long (sp_red rows row 40), .long (sp_redv rows vals row val 40)])), (ra, .inl (cA 1, 40, .inr (.inl rows))), (va, .inl (cA 1, 40, .inr (.inl vals)))]) [0, 1, 2] rfl
    have hD9 := hD.sub (ws' := [(o, .inr (4, [.ref ra, .ref va, .int (nI rk), .long (sp_red rows row 40), .long (sp_redv rows vals row val 40)])), (ra, .inl (cA 1, 40, .inr (.inl rows))), (va, .inl (cA 1, 40, .inr (.inl vals)))]) [0, 1, 2] (by decide) rfl
    exact W.zret (v := 0) hx hb hr (by decide) (fun t9 ht9 hW9 => ⟨⟨0, (), rfl, (by unfold sp_contra; rw [if_neg c_2] <;> rfl), by rw [ht9]; exact hP9, hD9⟩, hS.F ht9⟩) hS.2.2 dX4_contradicts_29
  · have c_2 : (lg_cmp (sp_red rows row 40) 0) = 0 := c_2
    refine lv_aload_n hx hb dX4_contradicts_15 rfl (lv_at hl 0 rfl) ?_
    refine va_get (D := (dC, dI)) (ci := 4) (v := .long (sp_redv rows vals row val 40)) (C := RX4) (T := TX4) (N := 5) hx hb hts inX4 hown hK hP 0 rfl rfl 4 (by decide) hk_1 (fun _ h9 => h9) rfl dX4_contradicts_16 ?_
    refine lv_lconst (v := 0) hx hb dX4_contradicts_19 (by decide) ?_
    refine W.lcmp hx hb dX4_contradicts_20 ?_
    refine lv_if_eq (tgt := 28) hx hb dX4_contradicts_21 (by decide) (fun c_3 => ?_) (fun c_3 => ?_)
    · have c_3 : (lg_cmp (sp_redv rows vals row val 40) 0) = 0 := c_3
      refine lv_iconst (v := 0) hx hb dX4_contradicts_28 (by decide) ?_
      have hP9 := hP.sub (ws' := [(o, .inr (4, [.ref ra, .ref va, .int (nI rk), .long (sp_red rows row 40), .long (sp_redv rows vals row val 40)])), (ra, .inl (cA 1, 40, .inr (.inl rows))), (va, .inl (cA 1, 40, .inr (.inl vals)))]) [0, 1, 2] rfl
      have hD9 := hD.sub (ws' := [(o, .inr (4, [.ref ra, .ref va, .int (nI rk), .long (sp_red rows row 40), .long (sp_redv rows vals row val 40)])), (ra, .inl (cA 1, 40, .inr (.inl rows))), (va, .inl (cA 1, 40, .inr (.inl vals)))]) [0, 1, 2] (by decide) rfl
      exact W.zret (v := 0) hx hb hr (by decide) (fun t9 ht9 hW9 => ⟨⟨0, (), rfl, (by unfold sp_contra; rw [if_pos c_2, if_pos c_3] <;> rfl), by rw [ht9]; exact hP9, hD9⟩, hS.F ht9⟩) hS.2.2 dX4_contradicts_29
    · have c_3 : ¬ ((lg_cmp (sp_redv rows vals row val 40) 0) = 0) := c_3
      refine lv_iconst (v := 1) hx hb dX4_contradicts_24 (by decide) ?_
      refine lv_goto (tgt := 29) hx hb dX4_contradicts_25 (by decide) ?_
      have hP9 := hP.sub (ws' := [(o, .inr (4, [.ref ra, .ref va, .int (nI rk), .long (sp_red rows row 40), .long (sp_redv rows vals row val 40)])), (ra, .inl (cA 1, 40, .inr (.inl rows))), (va, .inl (cA 1, 40, .inr (.inl vals)))]) [0, 1, 2] rfl
      have hD9 := hD.sub (ws' := [(o, .inr (4, [.ref ra, .ref va, .int (nI rk), .long (sp_red rows row 40), .long (sp_redv rows vals row val 40)])), (ra, .inl (cA 1, 40, .inr (.inl rows))), (va, .inl (cA 1, 40, .inr (.inl vals)))]) [0, 1, 2] (by decide) rfl
      exact W.zret (v := 1) hx hb hr (by decide) (fun t9 ht9 hW9 => ⟨⟨1, (), rfl, (by unfold sp_contra; rw [if_pos c_2, if_neg c_3] <;> rfl), by rw [ht9]; exact hP9, hD9⟩, hS.F ht9⟩) hS.2.2 dX4_contradicts_29
set_option maxHeartbeats 4000000 in
set_option maxRecDepth 100000 in
theorem c_Span_lowestOfRest (l : Launch) (dC : Nat → ClassId) (dI : Nat → Nat → Nat) (cA : Nat → ClassId) (o : Nat) (ra : Nat) (va : Nat) (rk : Nat) (rr : Int64) (rv : Int64)  : Met l yX4_lowestOfRest (kw_X4_lowestOfRest) ({ frames := 1, cells := 0, slots := 0, locals := 22 }) (va_Pc [.ref o] (fun U => kRO dC dI cA [(o, .inr (4, [.ref ra, .ref va, .int (nI rk), .long rr, .long rv]))] U)) (vp_Si (fun r => r = nI (sp_low rr 39 0))) 0 0 (fun _ => False) := by
  refine Met.ofW (cc := cX4_lowestOfRest) (maxL := 2) (ret := (some .int)) (by decide) rfl ?_
  intro p e s m args below meth c s₁ B hml hv
  obtain ⟨rfl, hP, hK, hN⟩ := hv
  have hx := B.exec
  have hb := B.bytes
  have hr := B.returns
  have hts0 := atoms_spec (ws := (kw_X4_lowestOfRest)) B.pre
  have hts : ∀ w ∈ TB, w.before _ s = true := fun w h => hts0 w (List.mem_cons_of_mem _ h)
  have hown : s.vm.findClass RX4 = some m.cls := findClass_of_methodNamed B.named
  have hlocks := B.notSynchronized
  have hk_0 := hts (.fieldLink RX4 26 "FountainRows$Span" "restRow" "J") tb_99
  have hl := lv_entry ([.ref o]) (n := 2) (Nat.le_of_ble_eq_true rfl)
  rw [lg_entry_eq]
  generalize (lg_sl ([.ref o]) ++ List.replicate (2 - (lg_sl ([.ref o])).length) Slot.unset).toArray = ls at hl ⊢
  have hl : lv_has ls 2 [(0, .ref o)] := hl
  refine lv_iconst (v := 0) hx hb dX4_lowestOfRest_0 (by decide) ?_
  refine lv_istore_n (lv' := [(1, .int 0), (0, .ref o)]) hx hb dX4_lowestOfRest_1 rfl hl (by decide) rfl (fun ls hl => ?_)
  have hi_hk : 0 ≤ 39 := (by omega)
  have hi_hrem : sp_low rr (39 - 0) 0 = sp_low rr 39 0 := rfl
  have hl9 : lv_has ls 2 [(1, .int (nI 0)), (0, .ref o)] := lv_sub hl [0, 1] rfl
  refine r_loop1 (I := fun (k : Nat) (ls : Array Slot) => (k ≤ 39) ∧ (sp_low rr (39 - k) k = sp_low rr 39 0) ∧ lv_has ls 2 [(1, .int (nI k)), (0, .ref o)]) (μ := fun k => 39 - k) ?_ 0 ⟨hi_hk, hi_hrem, hl9⟩
  intro k ls hI9 ih_L0
  obtain ⟨hk, hrem, hl⟩ := hI9
  refine lv_iload_n hx hb dX4_lowestOfRest_2 rfl (lv_at hl 0 rfl) ?_
  refine lv_bipush (v := 39) hx hb dX4_lowestOfRest_3 (by decide) ?_
  refine lv_icmp_ge (tgt := 25) hx hb dX4_lowestOfRest_5 (by decide) (fun c_1 => ?_) (fun c_1 => ?_)
  · have c_1 : 39 ≤ (nI k) := c_1
    have hk9 : 39 ≤ k := (ku_le (a := 39) (b := k) (by omega) (by omega)).mp c_1
    refine lv_iload_n hx hb dX4_lowestOfRest_25 rfl (lv_at hl 0 rfl) ?_
    exact W.iret (v := nI k) hx hb hr (fun t9 ht9 hW9 => ⟨nI k, rfl, (by rw [← hrem]; first | (rw [show 39 - k = 0 from (by omega)]; rfl) | (rw [show 39 - k = (39 - (k + 1)) + 1 from (by omega)]; exact congrArg nI (if_neg hbit).symm)), ht9⟩) (fun _ h => absurd h List.not_mem_nil) dX4_lowestOfRest_26
  · have c_1 : ¬ (39 ≤ (nI k)) := c_1
    have hk9 : k < 39 := (ku_nle (a := 39) (b := k) (by omega) (by omega)).mp c_1
    refine lv_aload_n hx hb dX4_lowestOfRest_8 rfl (lv_at hl 1 rfl) ?_
    refine va_get (D := (dC, dI)) (ci := 4) (v := .long rr) (C := RX4) (T := TX4) (N := 5) hx hb hts inX4 hown hK hP 0 rfl rfl 3 (by decide) hk_0 (fun _ h9 => h9) rfl dX4_lowestOfRest_9 ?_
    refine lv_iload_n hx hb dX4_lowestOfRest_12 rfl (lv_at hl 0 rfl) ?_
    have hPc := hP.sub (ws' := []) [] rfl
    refine kq_csi (va_runSN (As := [.long rr, .int (nI k)]) (rest := []) ⟨hx, hb, hml, hown, hts⟩ (c_FountainRows_hasBit l dC dI cA rr (nI k)) ⟨va_cnB 2 hts (kg_I tb_53) rfl rfl rfl (hN.2 (RX4, 37, yX5_hasBit, "FountainRows") (List.mem_of_getElem? (i := 5) rfl)) (hts _ tb_54) (by decide +kernel) ⟨Nat.le_of_ble_eq_true rfl, Nat.le_of_ble_eq_true rfl⟩, hts _ tb_55, trivial⟩ (kps_ro hK hN hPc) rfl rfl hl.1 rfl (lv_room (Nat.le_of_ble_eq_true rfl)) dX4_lowestOfRest_13 ⟨Nat.le_of_ble_eq_true rfl, Nat.le_of_ble_eq_true rfl⟩) (fun r_2 hr_2 => ?_)
    subst hr_2
    refine lv_if_ne (tgt := 25) hx hb dX4_lowestOfRest_16 (by decide) (fun c_3 => ?_) (fun c_3 => ?_)
    · have c_3 : ¬ ((sp_bit rr (nI k)) = 0) := c_3
      have hbit := c_3
      refine lv_iload_n hx hb dX4_lowestOfRest_25 rfl (lv_at hl 0 rfl) ?_
      exact W.iret (v := nI k) hx hb hr (fun t9 ht9 hW9 => ⟨nI k, rfl, (by rw [← hrem]; first | (rw [show 39 - k = 0 from (by omega)]; rfl) | (rw [show 39 - k = (39 - (k + 1)) + 1 from (by omega)]; exact congrArg nI (if_neg hbit).symm)), ht9⟩) (fun _ h => absurd h List.not_mem_nil) dX4_lowestOfRest_26
    · have c_3 : (sp_bit rr (nI k)) = 0 := c_3
      have hbit := c_3
      refine lv_iinc (v := nI (k + 1)) (lv' := [(1, .int (nI (k + 1))), (0, .ref o)]) hx hb dX4_lowestOfRest_19 hl (k := 0) rfl (nI_succ _).symm (by decide) rfl (fun ls hl => ?_)
      refine lv_goto (tgt := 2) hx hb dX4_lowestOfRest_22 (by decide) ?_
      have hi_hk : (k + 1) ≤ 39 := (by omega)
      have hi_hrem : sp_low rr (39 - (k + 1)) (k + 1) = sp_low rr 39 0 := (by rw [← hrem, show 39 - k = (39 - (k + 1)) + 1 from (by omega)]; exact (if_pos hbit).symm)
      have hl9 : lv_has ls 2 [(1, .int (nI (k + 1))), (0, .ref o)] := lv_sub hl [0, 1] rfl
      exact ih_L0 (k + 1) ls ⟨hi_hk, hi_hrem, hl9⟩ (by show 39 - (k + 1) < 39 - k; omega)
set_option maxHeartbeats 4000000 in
set_option maxRecDepth 100000 in
theorem c_Span_add (l : Launch) (dC : Nat → ClassId) (dI : Nat → Nat → Nat) (cA : Nat → ClassId) (sz : Nat) (o : Nat) (ra : Nat) (va : Nat) (rows : Nat → Int64) (vals : Nat → Int64) (rk : Nat) (rr : Int64) (rv : Int64) (row : Int64) (val : Int64) (hrk : rk < 2 ^ 30) : Met l yX4_add (kw_X4_add) ({ frames := 2, cells := 0, slots := 0, locals := 47 }) (va_Pc [.ref o, .long row, .long val] (fun U => kRW dC dI cA [(o, .inr (4, [.ref ra, .ref va, .int (nI rk), .long rr, .long rv])), (ra, .inl (cA 1, 40, .inr (.inl rows))), (va, .inl (cA 1, 40, .inr (.inl vals)))] sz U)) (va_Qv (fun (u : Unit) => True) (fun (u : Unit) t => kB dC dI (va_A [(o, .inr (4, [.ref ra, .ref va, .int (nI rk), .long rr, .long rv])), (ra, .inl (cA 1, 40, .inr (.inl rows))), (va, .inl (cA 1, 40, .inr (.inl vals)))] sz) [(o, .inr (4, [.ref ra, .ref va, .int (nI (sp_addk rows row rk)), .long (sp_red rows row 40), .long (sp_redv rows vals row val 40)])), (ra, .inl (cA 1, 40, .inr (.inl (sp_addr rows row)))), (va, .inl (cA 1, 40, .inr (.inl (sp_addv rows vals row val))))] t) (va_A [(o, .inr (4, [.ref ra, .ref va, .int (nI rk), .long rr, .long rv])), (ra, .inl (cA 1, 40, .inr (.inl rows))), (va, .inl (cA 1, 40, .inr (.inl vals)))] sz)) 0 0 (va_A [(o, .inr (4, [.ref ra, .ref va, .int (nI rk), .long rr, .long rv])), (ra, .inl (cA 1, 40, .inr (.inl rows))), (va, .inl (cA 1, 40, .inr (.inl vals)))] sz) := by
  refine Met.ofW (cc := cX4_add) (maxL := 7) (ret := none) (by decide) rfl ?_
  intro p e s m args below meth c s₁ B hml hv
  obtain ⟨rfl, hsz, hP, hK, hN, hD0⟩ := hv
  have hx := B.exec
  have hb := B.bytes
  have hr := B.returns
  have hts0 := atoms_spec (ws := (kw_X4_add)) B.pre
  have hts : ∀ w ∈ TB, w.before _ s = true := fun w h => hts0 w (List.mem_cons_of_mem _ h)
  have hown : s.vm.findClass RX4 = some m.cls := findClass_of_methodNamed B.named
  have hlocks := B.notSynchronized
  subst hsz
  have hD := hD0.self (sz := s.heap.size)
  generalize hAe : va_A [(o, .inr (4, [.ref ra, .ref va, .int (nI rk), .long rr, .long rv])), (ra, .inl (cA 1, 40, .inr (.inl rows))), (va, .inl (cA 1, 40, .inr (.inl vals)))] s.heap.size = A at hD ⊢
  have hA : ∀ q : Nat, s.heap.size ≤ q → A q := fun q h => by rw [← hAe]; exact Or.inr h
  have hS : va_S A s.heap s.heap [] := va_S.rf
  have hk_0 := hts (.fieldLink RX4 26 "FountainRows$Span" "restRow" "J") tb_99
  have hk_1 := hts (.fieldLink RX4 9 "FountainRows$Span" "rows" "[J") tb_92
  have hk_2 := hts (.fieldLink RX4 15 "FountainRows$Span" "values" "[J") tb_93
  have hk_3 := hts (.fieldLink RX4 30 "FountainRows$Span" "restValue" "J") tb_100
  have hk_4 := hts (.fieldLink RX4 18 "FountainRows$Span" "rank" "I") tb_91
  have hl := lv_entry ([.ref o, .long row, .long val]) (n := 7) (Nat.le_of_ble_eq_true rfl)
  rw [lg_entry_eq]
  generalize (lg_sl ([.ref o, .long row, .long val]) ++ List.replicate (7 - (lg_sl ([.ref o, .long row, .long val])).length) Slot.unset).toArray = ls at hl ⊢
  have hl : lv_has ls 7 [(0, .ref o), (1, .long row), (3, .long val)] := hl
  refine lv_aload_n hx hb dX4_add_0 rfl (lv_at hl 0 rfl) ?_
  refine lv_lload_n hx hb dX4_add_1 rfl (lv_at hl 1 rfl) ?_
  refine lv_lload_n hx hb dX4_add_2 rfl (lv_at hl 2 rfl) ?_
  have hPc := hP.sub (ws' := [(o, .inr (4, [.ref ra, .ref va, .int (nI rk), .long rr, .long rv])), (ra, .inl (cA 1, 40, .inr (.inl rows))), (va, .inl (cA 1, 40, .inr (.inl vals)))]) [0, 1, 2] rfl
  have hDc := hD.sub (ws' := [(o, .inr (4, [.ref ra, .ref va, .int (nI rk), .long rr, .long rv])), (ra, .inl (cA 1, 40, .inr (.inl rows))), (va, .inl (cA 1, 40, .inr (.inl vals)))]) [0, 1, 2] (by decide) rfl
  have hFc := va_free (wc := [(o, .inr (4, [.ref ra, .ref va, .int (nI rk), .long rr, .long rv])), (ra, .inl (cA 1, 40, .inr (.inl rows))), (va, .inl (cA 1, 40, .inr (.inl vals)))]) hD hS hA [0, 1, 2] rfl
  refine va_callv (va_runV (As := [.long row, .long val]) (rest := []) ⟨hx, hb, hml, hown, hts⟩ (c_Span_reduce l dC dI cA s.heap.size o ra va rows vals rk rr rv row val) (cwV 2 hts (kg_V tb_102 tb_103 tb_104 tb_98 tb_101) rfl rfl rfl (by decide +kernel) ⟨Nat.le_of_ble_eq_true rfl, Nat.le_of_ble_eq_true rfl⟩) (kpv_rw hK hN hPc hDc (ci := 4) (q0 := 0) rfl rfl rfl) rfl rfl hl.1 rfl (lv_room (Nat.le_of_ble_eq_true rfl)) dX4_add_3 ⟨Nat.le_of_ble_eq_true rfl, Nat.le_of_ble_eq_true rfl⟩) hS (fun q _ h => hFc q h) hFc (fun u9 t9 H1 locs ht9 hvm9 hr_1 hB hz1 hk1 hS => ?_)
  obtain ⟨hP1, hD1⟩ := hB
  rw [ht9] at hP1
  obtain ⟨hP, hD⟩ := va_join (wr := []) (w1 := [(o, .inr (4, [.ref ra, .ref va, .int (nI rk), .long (sp_red rows row 40), .long (sp_redv rows vals row val 40)])), (ra, .inl (cA 1, 40, .inr (.inl rows))), (va, .inl (cA 1, 40, .inr (.inl vals)))]) hP hD [0, 1, 2] [] rfl rfl (by decide) (by decide) hk1 hFc hP1 hD1
  generalize H1 = H at hP hS ⊢
  have hP : va_P (dC, dI) vwCl [(o, .inr (4, [.ref ra, .ref va, .int (nI rk), .long (sp_red rows row 40), .long (sp_redv rows vals row val 40)])), (ra, .inl (cA 1, 40, .inr (.inl rows))), (va, .inl (cA 1, 40, .inr (.inl vals)))] H := hP
  have hD : va_D A [(o, .inr (4, [.ref ra, .ref va, .int (nI rk), .long (sp_red rows row 40), .long (sp_redv rows vals row val 40)])), (ra, .inl (cA 1, 40, .inr (.inl rows))), (va, .inl (cA 1, 40, .inr (.inl vals)))] := hD
  refine lv_aload_n hx hb dX4_add_6 rfl (lv_at hl 0 rfl) ?_
  refine va_get (D := (dC, dI)) (ci := 4) (v := .long (sp_red rows row 40)) (C := RX4) (T := TX4) (N := 5) hx hb hts inX4 hown hK hP 0 rfl rfl 3 (by decide) hk_0 (fun _ h9 => h9) rfl dX4_add_7 ?_
  refine lv_lconst (v := 0) hx hb dX4_add_10 (by decide) ?_
  refine W.lcmp hx hb dX4_add_11 ?_
  refine lv_if_ne (tgt := 16) hx hb dX4_add_12 (by decide) (fun c_2 => ?_) (fun c_2 => ?_)
  · have c_2 : ¬ ((lg_cmp (sp_red rows row 40) 0) = 0) := c_2
    have hz := c_2
    refine lv_aload_n hx hb dX4_add_16 rfl (lv_at hl 0 rfl) ?_
    have hPc := hP.sub (ws' := [(o, .inr (4, [.ref ra, .ref va, .int (nI rk), .long (sp_red rows row 40), .long (sp_redv rows vals row val 40)]))]) [0] rfl
    refine kq_csi (va_runV (As := []) (rest := []) ⟨hx, hb, hml, hown, hts⟩ (c_Span_lowestOfRest l dC dI cA o ra va rk (sp_red rows row 40) (sp_redv rows vals row val 40)) (cwV 0 hts (kg_V tb_106 tb_107 tb_108 tb_98 tb_105) rfl rfl rfl (by decide +kernel) ⟨Nat.le_of_ble_eq_true rfl, Nat.le_of_ble_eq_true rfl⟩) (kpv_ro hK hN hPc (ci := 4) (q0 := 0) rfl rfl rfl) rfl rfl hl.1 rfl (lv_room (Nat.le_of_ble_eq_true rfl)) dX4_add_17 ⟨Nat.le_of_ble_eq_true rfl, Nat.le_of_ble_eq_true rfl⟩) (fun r_3 hr_3 => ?_)
    subst hr_3
    refine lv_istore (lv' := [(5, .int (nI (sp_low (sp_red rows row 40) 39 0))), (0, .ref o), (1, .long row), (3, .long val)]) hx hb dX4_add_20 hl (by decide) rfl (fun ls hl => ?_)
    refine lv_iconst (v := 0) hx hb dX4_add_22 (by decide) ?_
    refine lv_istore (lv' := [(6, .int 0), (5, .int (nI (sp_low (sp_red rows row 40) 39 0))), (0, .ref o), (1, .long row), (3, .long val)]) hx hb dX4_add_23 hl (by decide) rfl (fun ls hl => ?_)
    have hi_hk : 0 ≤ 40 := (by omega)
    have hi_h1 : rows = sp_el rows (sp_red rows row 40) (sp_low (sp_red rows row 40) 39 0) 0 := rfl
    have hi_h2 : vals = sp_elv rows vals (sp_red rows row 40) (sp_redv rows vals row val 40) (sp_low (sp_red rows row 40) 39 0) 0 := rfl
    have hl9 : lv_has ls 7 [(6, .int (nI 0)), (5, .int (nI (sp_low (sp_red rows row 40) 39 0))), (0, .ref o), (1, .long row), (3, .long val)] := lv_sub hl [0, 1, 2, 3, 4] rfl
    refine k_loop3 (I := fun (k : Nat) (f1 : Nat → Int64) (f2 : Nat → Int64) (H : Heap) (locs : List Loc) (ls : Array Slot) => (k ≤ 40) ∧ (f1 = sp_el rows (sp_red rows row 40) (sp_low (sp_red rows row 40) 39 0) k) ∧ (f2 = sp_elv rows vals (sp_red rows row 40) (sp_redv rows vals row val 40) (sp_low (sp_red rows row 40) 39 0) k) ∧ lv_has ls 7 [(6, .int (nI k)), (5, .int (nI (sp_low (sp_red rows row 40) 39 0))), (0, .ref o), (1, .long row), (3, .long val)] ∧ va_P (dC, dI) vwCl [(o, .inr (4, [.ref ra, .ref va, .int (nI rk), .long (sp_red rows row 40), .long (sp_redv rows vals row val 40)])), (ra, .inl (cA 1, 40, .inr (.inl f1))), (va, .inl (cA 1, 40, .inr (.inl f2)))] H ∧ va_D A [(o, .inr (4, [.ref ra, .ref va, .int (nI rk), .long (sp_red rows row 40), .long (sp_redv rows vals row val 40)])), (ra, .inl (cA 1, 40, .inr (.inl f1))), (va, .inl (cA 1, 40, .inr (.inl f2)))] ∧ va_S A s.heap H locs) (μ := fun k f1 f2 => 40 - k) ?_ 0 rows vals ⟨hi_hk, hi_h1, hi_h2, hl9, hP, hD, hS⟩
    intro k f1 f2 H locs ls hI9 ih_L0
    obtain ⟨hk, h1, h2, hl, hP, hD, hS⟩ := hI9
    refine lv_iload hx hb dX4_add_25 (lv_at hl 0 rfl) ?_
    refine lv_bipush (v := 40) hx hb dX4_add_27 (by decide) ?_
    refine lv_icmp_ge (tgt := 81) hx hb dX4_add_29 (by decide) (fun c_4 => ?_) (fun c_4 => ?_)
    · have c_4 : 40 ≤ (nI k) := c_4
      have hk9 : 40 ≤ k := (ku_le (a := 40) (b := k) (by omega) (by omega)).mp c_4
      have e40 : k = 40 := by omega
      subst e40
      refine lv_aload_n hx hb dX4_add_81 rfl (lv_at hl 2 rfl) ?_
      refine va_get (D := (dC, dI)) (ci := 4) (v := .ref ra) (C := RX4) (T := TX4) (N := 5) hx hb hts inX4 hown hK hP 0 rfl rfl 0 (by decide) hk_1 (fun _ h9 => h9) rfl dX4_add_82 ?_
      refine lv_iload hx hb dX4_add_85 (lv_at hl 1 rfl) ?_
      refine lv_aload_n hx hb dX4_add_87 rfl (lv_at hl 2 rfl) ?_
      refine va_get (D := (dC, dI)) (ci := 4) (v := .long (sp_red rows row 40)) (C := RX4) (T := TX4) (N := 5) hx hb hts inX4 hown hK hP 0 rfl rfl 3 (by decide) hk_0 (fun _ h9 => h9) rfl dX4_add_88 ?_
      have hlo := sp_low_lt (sp_red rows row 40)
      refine va_last (D := (dC, dI)) hx hb hK hP hD hS 1 1 rfl rfl (vp_in_nI (by omega) (by omega)) dX4_add_91 (fun H locs hP hD hS => ?_)
      rw [nI_clamp (by omega : (sp_low (sp_red rows row 40) 39 0) < 2 ^ 31)] at hP hD
      have hP : va_P (dC, dI) vwCl [(o, .inr (4, [.ref ra, .ref va, .int (nI rk), .long (sp_red rows row 40), .long (sp_redv rows vals row val 40)])), (ra, .inl (cA 1, 40, .inr (.inl (vp_updL f1 (sp_low (sp_red rows row 40) 39 0) (sp_red rows row 40))))), (va, .inl (cA 1, 40, .inr (.inl f2)))] H := hP
      have hD : va_D A [(o, .inr (4, [.ref ra, .ref va, .int (nI rk), .long (sp_red rows row 40), .long (sp_redv rows vals row val 40)])), (ra, .inl (cA 1, 40, .inr (.inl (vp_updL f1 (sp_low (sp_red rows row 40) 39 0) (sp_red rows row 40))))), (va, .inl (cA 1, 40, .inr (.inl f2)))] := hD
      refine lv_aload_n hx hb dX4_add_92 rfl (lv_at hl 2 rfl) ?_
      refine va_get (D := (dC, dI)) (ci := 4) (v := .ref va) (C := RX4) (T := TX4) (N := 5) hx hb hts inX4 hown hK hP 0 rfl rfl 1 (by decide) hk_2 (fun _ h9 => h9) rfl dX4_add_93 ?_
      refine lv_iload hx hb dX4_add_96 (lv_at hl 1 rfl) ?_
      refine lv_aload_n hx hb dX4_add_98 rfl (lv_at hl 2 rfl) ?_
      refine va_get (D := (dC, dI)) (ci := 4) (v := .long (sp_redv rows vals row val 40)) (C := RX4) (T := TX4) (N := 5) hx hb hts inX4 hown hK hP 0 rfl rfl 4 (by decide) hk_3 (fun _ h9 => h9) rfl dX4_add_99 ?_
      refine va_last (D := (dC, dI)) hx hb hK hP hD hS 2 1 rfl rfl (vp_in_nI (by omega) (by omega)) dX4_add_102 (fun H locs hP hD hS => ?_)
      rw [nI_clamp (by omega : (sp_low (sp_red rows row 40) 39 0) < 2 ^ 31)] at hP hD
      have hP : va_P (dC, dI) vwCl [(o, .inr (4, [.ref ra, .ref va, .int (nI rk), .long (sp_red rows row 40), .long (sp_redv rows vals row val 40)])), (ra, .inl (cA 1, 40, .inr (.inl (vp_updL f1 (sp_low (sp_red rows row 40) 39 0) (sp_red rows row 40))))), (va, .inl (cA 1, 40, .inr (.inl (vp_updL f2 (sp_low (sp_red rows row 40) 39 0) (sp_redv rows vals row val 40)))))] H := hP
      have hD : va_D A [(o, .inr (4, [.ref ra, .ref va, .int (nI rk), .long (sp_red rows row 40), .long (sp_redv rows vals row val 40)])), (ra, .inl (cA 1, 40, .inr (.inl (vp_updL f1 (sp_low (sp_red rows row 40) 39 0) (sp_red rows row 40))))), (va, .inl (cA 1, 40, .inr (.inl (vp_updL f2 (sp_low (sp_red rows row 40) 39 0) (sp_redv rows vals row val 40)))))] := hD
      refine lv_aload_n hx hb dX4_add_103 rfl (lv_at hl 2 rfl) ?_
      refine lv_dup hx hb dX4_add_104 rfl ?_
      refine va_get (D := (dC, dI)) (ci := 4) (v := .int (nI rk)) (C := RX4) (T := TX4) (N := 5) hx hb hts inX4 hown hK hP 0 rfl rfl 2 (by decide) hk_4 (fun _ h9 => h9) rfl dX4_add_105 ?_
      refine lv_iconst (v := 1) hx hb dX4_add_108 (by decide) ?_
      refine lv_iadd hx hb dX4_add_109 ?_
      refine kt_i (y := nI (rk + 1)) (nI_add rk 1) ?_
      refine va_put (D := (dC, dI)) (ci := 4) (v := .int (nI (rk + 1))) (ty := .int) (C := RX4) (T := TX4) (N := 5) hx hb hts inX4 tyX4 tyX4_ok nmX4 hown hK hP hD hS 0 rfl rfl 2 (by decide) hk_4 (fun _ h9 => h9) rfl (by decide +kernel) rfl rfl (Nat.le_of_ble_eq_true rfl) dX4_add_110 (fun H locs hP hD hS => ?_)
      have hP : va_P (dC, dI) vwCl [(o, .inr (4, [.ref ra, .ref va, .int (nI (rk + 1)), .long (sp_red rows row 40), .long (sp_redv rows vals row val 40)])), (ra, .inl (cA 1, 40, .inr (.inl (vp_updL f1 (sp_low (sp_red rows row 40) 39 0) (sp_red rows row 40))))), (va, .inl (cA 1, 40, .inr (.inl (vp_updL f2 (sp_low (sp_red rows row 40) 39 0) (sp_redv rows vals row val 40)))))] H := hP
      have hD : va_D A [(o, .inr (4, [.ref ra, .ref va, .int (nI (rk + 1)), .long (sp_red rows row 40), .long (sp_redv rows vals row val 40)])), (ra, .inl (cA 1, 40, .inr (.inl (vp_updL f1 (sp_low (sp_red rows row 40) 39 0) (sp_red rows row 40))))), (va, .inl (cA 1, 40, .inr (.inl (vp_updL f2 (sp_low (sp_red rows row 40) 39 0) (sp_redv rows vals row val 40)))))] := hD
      have hP9 := hP.sub (ws' := [(o, .inr (4, [.ref ra, .ref va, .int (nI (rk + 1)), .long (sp_red rows row 40), .long (sp_redv rows vals row val 40)])), (ra, .inl (cA 1, 40, .inr (.inl (vp_updL f1 (sp_low (sp_red rows row 40) 39 0) (sp_red rows row 40))))), (va, .inl (cA 1, 40, .inr (.inl (vp_updL f2 (sp_low (sp_red rows row 40) 39 0) (sp_redv rows vals row val 40)))))]) [0, 1, 2] rfl
      have hD9 := hD.sub (ws' := [(o, .inr (4, [.ref ra, .ref va, .int (nI (rk + 1)), .long (sp_red rows row 40), .long (sp_redv rows vals row val 40)])), (ra, .inl (cA 1, 40, .inr (.inl (vp_updL f1 (sp_low (sp_red rows row 40) 39 0) (sp_red rows row 40))))), (va, .inl (cA 1, 40, .inr (.inl (vp_updL f2 (sp_low (sp_red rows row 40) 39 0) (sp_redv rows vals row val 40)))))]) [0, 1, 2] (by decide) rfl
      have e9_0 : nI (sp_addk rows row rk) = nI (rk + 1) := (by first | (unfold sp_addr; first | rw [if_pos hz] | (rw [if_neg hz, h1])) | (unfold sp_addv; first | rw [if_pos hz] | (rw [if_neg hz, h2])) | (unfold sp_addk; first | rw [if_pos hz] | rw [if_neg hz]))
      have e9_1 : sp_addr rows row = vp_updL f1 (sp_low (sp_red rows row 40) 39 0) (sp_red rows row 40) := (by first | (unfold sp_addr; first | rw [if_pos hz] | (rw [if_neg hz, h1])) | (unfold sp_addv; first | rw [if_pos hz] | (rw [if_neg hz, h2])) | (unfold sp_addk; first | rw [if_pos hz] | rw [if_neg hz]))
      have e9_2 : sp_addv rows vals row val = vp_updL f2 (sp_low (sp_red rows row 40) 39 0) (sp_redv rows vals row val 40) := (by first | (unfold sp_addr; first | rw [if_pos hz] | (rw [if_neg hz, h1])) | (unfold sp_addv; first | rw [if_pos hz] | (rw [if_neg hz, h2])) | (unfold sp_addk; first | rw [if_pos hz] | rw [if_neg hz]))
      have e9 : ([(o, .inr (4, [.ref ra, .ref va, .int (nI (sp_addk rows row rk)), .long (sp_red rows row 40), .long (sp_redv rows vals row val 40)])), (ra, .inl (cA 1, 40, .inr (.inl (sp_addr rows row)))), (va, .inl (cA 1, 40, .inr (.inl (sp_addv rows vals row val))))] : va_W) = [(o, .inr (4, [.ref ra, .ref va, .int (nI (rk + 1)), .long (sp_red rows row 40), .long (sp_redv rows vals row val 40)])), (ra, .inl (cA 1, 40, .inr (.inl (vp_updL f1 (sp_low (sp_red rows row 40) 39 0) (sp_red rows row 40))))), (va, .inl (cA 1, 40, .inr (.inl (vp_updL f2 (sp_low (sp_red rows row 40) 39 0) (sp_redv rows vals row val 40)))))] := by rw [e9_0, e9_1, e9_2]
      exact W.vret hx hb hr (fun t9 ht9 hW9 => ⟨⟨(), rfl, trivial, by rw [ht9, e9]; exact hP9, by rw [e9]; exact hD9⟩, hS.F ht9⟩) hS.2.2 dX4_add_113
    · have c_4 : ¬ (40 ≤ (nI k)) := c_4
      have hk9 : k < 40 := (ku_nle (a := 40) (b := k) (by omega) (by omega)).mp c_4
      refine lv_aload_n hx hb dX4_add_32 rfl (lv_at hl 2 rfl) ?_
      refine va_get (D := (dC, dI)) (ci := 4) (v := .ref ra) (C := RX4) (T := TX4) (N := 5) hx hb hts inX4 hown hK hP 0 rfl rfl 0 (by decide) hk_1 (fun _ h9 => h9) rfl dX4_add_33 ?_
      refine lv_iload hx hb dX4_add_36 (lv_at hl 0 rfl) ?_
      refine va_lald (D := (dC, dI)) hx hb hK hP 1 1 rfl rfl (vp_in_nI hk9 (by omega)) dX4_add_38 ?_
      refine kt_l (congrArg f1 (nI_clamp (by omega : k < 2 ^ 31))) ?_
      refine lv_iload hx hb dX4_add_39 (lv_at hl 1 rfl) ?_
      have hPc := hP.sub (ws' := []) [] rfl
      refine kq_csi (va_runSN (As := [.long (f1 k), .int (nI (sp_low (sp_red rows row 40) 39 0))]) (rest := []) ⟨hx, hb, hml, hown, hts⟩ (c_FountainRows_hasBit l dC dI cA (f1 k) (nI (sp_low (sp_red rows row 40) 39 0))) ⟨va_cnB 2 hts (kg_I tb_53) rfl rfl rfl (hN.2 (RX4, 37, yX5_hasBit, "FountainRows") (List.mem_of_getElem? (i := 5) rfl)) (hts _ tb_54) (by decide +kernel) ⟨Nat.le_of_ble_eq_true rfl, Nat.le_of_ble_eq_true rfl⟩, hts _ tb_55, trivial⟩ (kps_ro hK hN hPc) rfl rfl hl.1 rfl (lv_room (Nat.le_of_ble_eq_true rfl)) dX4_add_41 ⟨Nat.le_of_ble_eq_true rfl, Nat.le_of_ble_eq_true rfl⟩) (fun r_5 hr_5 => ?_)
      subst hr_5
      refine lv_if_eq (tgt := 75) hx hb dX4_add_44 (by decide) (fun c_6 => ?_) (fun c_6 => ?_)
      · have c_6 : (sp_bit (f1 k) (nI (sp_low (sp_red rows row 40) 39 0))) = 0 := c_6
        refine lv_iinc (v := nI (k + 1)) (lv' := [(6, .int (nI (k + 1))), (5, .int (nI (sp_low (sp_red rows row 40) 39 0))), (0, .ref o), (1, .long row), (3, .long val)]) hx hb dX4_add_75 hl (k := 0) rfl (nI_succ _).symm (by decide) rfl (fun ls hl => ?_)
        refine lv_goto (tgt := 25) hx hb dX4_add_78 (by decide) ?_
        have hi_hk : (k + 1) ≤ 40 := (by omega)
        have hi_h1 : f1 = sp_el rows (sp_red rows row 40) (sp_low (sp_red rows row 40) 39 0) (k + 1) := (by subst h1; exact (if_pos c_6).symm)
        have hi_h2 : f2 = sp_elv rows vals (sp_red rows row 40) (sp_redv rows vals row val 40) (sp_low (sp_red rows row 40) 39 0) (k + 1) := (by subst h1; subst h2; exact (if_pos c_6).symm)
        have hl9 : lv_has ls 7 [(6, .int (nI (k + 1))), (5, .int (nI (sp_low (sp_red rows row 40) 39 0))), (0, .ref o), (1, .long row), (3, .long val)] := lv_sub hl [0, 1, 2, 3, 4] rfl
        have hP9 : va_P (dC, dI) vwCl [(o, .inr (4, [.ref ra, .ref va, .int (nI rk), .long (sp_red rows row 40), .long (sp_redv rows vals row val 40)])), (ra, .inl (cA 1, 40, .inr (.inl f1))), (va, .inl (cA 1, 40, .inr (.inl f2)))] H := hP
        have hD9 : va_D A [(o, .inr (4, [.ref ra, .ref va, .int (nI rk), .long (sp_red rows row 40), .long (sp_redv rows vals row val 40)])), (ra, .inl (cA 1, 40, .inr (.inl f1))), (va, .inl (cA 1, 40, .inr (.inl f2)))] := hD
        exact ih_L0 (k + 1) f1 f2 H locs ls ⟨hi_hk, hi_h1, hi_h2, hl9, hP9, hD9, hS⟩ (by show 40 - (k + 1) < 40 - k; omega)
      · have c_6 : ¬ ((sp_bit (f1 k) (nI (sp_low (sp_red rows row 40) 39 0))) = 0) := c_6
        refine lv_aload_n hx hb dX4_add_47 rfl (lv_at hl 2 rfl) ?_
        refine va_get (D := (dC, dI)) (ci := 4) (v := .ref ra) (C := RX4) (T := TX4) (N := 5) hx hb hts inX4 hown hK hP 0 rfl rfl 0 (by decide) hk_1 (fun _ h9 => h9) rfl dX4_add_48 ?_
        refine lv_iload hx hb dX4_add_51 (lv_at hl 0 rfl) ?_
        refine lv_dup2_11 hx hb dX4_add_53 rfl rfl ?_
        refine va_lald (D := (dC, dI)) hx hb hK hP 1 1 rfl rfl (vp_in_nI hk9 (by omega)) dX4_add_54 ?_
        refine kt_l (congrArg f1 (nI_clamp (by omega : k < 2 ^ 31))) ?_
        refine lv_aload_n hx hb dX4_add_55 rfl (lv_at hl 2 rfl) ?_
        refine va_get (D := (dC, dI)) (ci := 4) (v := .long (sp_red rows row 40)) (C := RX4) (T := TX4) (N := 5) hx hb hts inX4 hown hK hP 0 rfl rfl 3 (by decide) hk_0 (fun _ h9 => h9) rfl dX4_add_56 ?_
        refine lv_lxor hx hb dX4_add_59 ?_
        refine va_last (D := (dC, dI)) hx hb hK hP hD hS 1 1 rfl rfl (vp_in_nI hk9 (by omega)) dX4_add_60 (fun H locs hP hD hS => ?_)
        rw [nI_clamp (by omega : k < 2 ^ 31)] at hP hD
        have hP : va_P (dC, dI) vwCl [(o, .inr (4, [.ref ra, .ref va, .int (nI rk), .long (sp_red rows row 40), .long (sp_redv rows vals row val 40)])), (ra, .inl (cA 1, 40, .inr (.inl (vp_updL f1 k ((f1 k) ^^^ (sp_red rows row 40)))))), (va, .inl (cA 1, 40, .inr (.inl f2)))] H := hP
        have hD : va_D A [(o, .inr (4, [.ref ra, .ref va, .int (nI rk), .long (sp_red rows row 40), .long (sp_redv rows vals row val 40)])), (ra, .inl (cA 1, 40, .inr (.inl (vp_updL f1 k ((f1 k) ^^^ (sp_red rows row 40)))))), (va, .inl (cA 1, 40, .inr (.inl f2)))] := hD
        refine lv_aload_n hx hb dX4_add_61 rfl (lv_at hl 2 rfl) ?_
        refine va_get (D := (dC, dI)) (ci := 4) (v := .ref va) (C := RX4) (T := TX4) (N := 5) hx hb hts inX4 hown hK hP 0 rfl rfl 1 (by decide) hk_2 (fun _ h9 => h9) rfl dX4_add_62 ?_
        refine lv_iload hx hb dX4_add_65 (lv_at hl 0 rfl) ?_
        refine lv_dup2_11 hx hb dX4_add_67 rfl rfl ?_
        refine va_lald (D := (dC, dI)) hx hb hK hP 2 1 rfl rfl (vp_in_nI hk9 (by omega)) dX4_add_68 ?_
        refine kt_l (congrArg f2 (nI_clamp (by omega : k < 2 ^ 31))) ?_
        refine lv_aload_n hx hb dX4_add_69 rfl (lv_at hl 2 rfl) ?_
        refine va_get (D := (dC, dI)) (ci := 4) (v := .long (sp_redv rows vals row val 40)) (C := RX4) (T := TX4) (N := 5) hx hb hts inX4 hown hK hP 0 rfl rfl 4 (by decide) hk_3 (fun _ h9 => h9) rfl dX4_add_70 ?_
        refine lv_lxor hx hb dX4_add_73 ?_
        refine va_last (D := (dC, dI)) hx hb hK hP hD hS 2 1 rfl rfl (vp_in_nI hk9 (by omega)) dX4_add_74 (fun H locs hP hD hS => ?_)
        rw [nI_clamp (by omega : k < 2 ^ 31)] at hP hD
        have hP : va_P (dC, dI) vwCl [(o, .inr (4, [.ref ra, .ref va, .int (nI rk), .long (sp_red rows row 40), .long (sp_redv rows vals row val 40)])), (ra, .inl (cA 1, 40, .inr (.inl (vp_updL f1 k ((f1 k) ^^^ (sp_red rows row 40)))))), (va, .inl (cA 1, 40, .inr (.inl (vp_updL f2 k ((f2 k) ^^^ (sp_redv rows vals row val 40))))))] H := hP
        have hD : va_D A [(o, .inr (4, [.ref ra, .ref va, .int (nI rk), .long (sp_red rows row 40), .long (sp_redv rows vals row val 40)])), (ra, .inl (cA 1, 40, .inr (.inl (vp_updL f1 k ((f1 k) ^^^ (sp_red rows row 40)))))), (va, .inl (cA 1, 40, .inr (.inl (vp_updL f2 k ((f2 k) ^^^ (sp_redv rows vals row val 40))))))] := hD
        refine lv_iinc (v := nI (k + 1)) (lv' := [(6, .int (nI (k + 1))), (5, .int (nI (sp_low (sp_red rows row 40) 39 0))), (0, .ref o), (1, .long row), (3, .long val)]) hx hb dX4_add_75 hl (k := 0) rfl (nI_succ _).symm (by decide) rfl (fun ls hl => ?_)
        refine lv_goto (tgt := 25) hx hb dX4_add_78 (by decide) ?_
        have hi_hk : (k + 1) ≤ 40 := (by omega)
        have hi_h1 : (vp_updL f1 k ((f1 k) ^^^ (sp_red rows row 40))) = sp_el rows (sp_red rows row 40) (sp_low (sp_red rows row 40) 39 0) (k + 1) := (by subst h1; exact (if_neg c_6).symm)
        have hi_h2 : (vp_updL f2 k ((f2 k) ^^^ (sp_redv rows vals row val 40))) = sp_elv rows vals (sp_red rows row 40) (sp_redv rows vals row val 40) (sp_low (sp_red rows row 40) 39 0) (k + 1) := (by subst h1; subst h2; exact (if_neg c_6).symm)
        have hl9 : lv_has ls 7 [(6, .int (nI (k + 1))), (5, .int (nI (sp_low (sp_red rows row 40) 39 0))), (0, .ref o), (1, .long row), (3, .long val)] := lv_sub hl [0, 1, 2, 3, 4] rfl
        have hP9 : va_P (dC, dI) vwCl [(o, .inr (4, [.ref ra, .ref va, .int (nI rk), .long (sp_red rows row 40), .long (sp_redv rows vals row val 40)])), (ra, .inl (cA 1, 40, .inr (.inl (vp_updL f1 k ((f1 k) ^^^ (sp_red rows row 40)))))), (va, .inl (cA 1, 40, .inr (.inl (vp_updL f2 k ((f2 k) ^^^ (sp_redv rows vals row val 40))))))] H := hP
        have hD9 : va_D A [(o, .inr (4, [.ref ra, .ref va, .int (nI rk), .long (sp_red rows row 40), .long (sp_redv rows vals row val 40)])), (ra, .inl (cA 1, 40, .inr (.inl (vp_updL f1 k ((f1 k) ^^^ (sp_red rows row 40)))))), (va, .inl (cA 1, 40, .inr (.inl (vp_updL f2 k ((f2 k) ^^^ (sp_redv rows vals row val 40))))))] := hD
        exact ih_L0 (k + 1) (vp_updL f1 k ((f1 k) ^^^ (sp_red rows row 40))) (vp_updL f2 k ((f2 k) ^^^ (sp_redv rows vals row val 40))) H locs ls ⟨hi_hk, hi_h1, hi_h2, hl9, hP9, hD9, hS⟩ (by show 40 - (k + 1) < 40 - k; omega)
  · have c_2 : (lg_cmp (sp_red rows row 40) 0) = 0 := c_2
    have hz := c_2
    have hP9 := hP.sub (ws' := [(o, .inr (4, [.ref ra, .ref va, .int (nI rk), .long (sp_red rows row 40), .long (sp_redv rows vals row val 40)])), (ra, .inl (cA 1, 40, .inr (.inl rows))), (va, .inl (cA 1, 40, .inr (.inl vals)))]) [0, 1, 2] rfl
    have hD9 := hD.sub (ws' := [(o, .inr (4, [.ref ra, .ref va, .int (nI rk), .long (sp_red rows row 40), .long (sp_redv rows vals row val 40)])), (ra, .inl (cA 1, 40, .inr (.inl rows))), (va, .inl (cA 1, 40, .inr (.inl vals)))]) [0, 1, 2] (by decide) rfl
    have e9_0 : nI (sp_addk rows row rk) = nI rk := (by first | (unfold sp_addr; first | rw [if_pos hz] | (rw [if_neg hz, h1])) | (unfold sp_addv; first | rw [if_pos hz] | (rw [if_neg hz, h2])) | (unfold sp_addk; first | rw [if_pos hz] | rw [if_neg hz]))
    have e9_1 : sp_addr rows row = rows := (by first | (unfold sp_addr; first | rw [if_pos hz] | (rw [if_neg hz, h1])) | (unfold sp_addv; first | rw [if_pos hz] | (rw [if_neg hz, h2])) | (unfold sp_addk; first | rw [if_pos hz] | rw [if_neg hz]))
    have e9_2 : sp_addv rows vals row val = vals := (by first | (unfold sp_addr; first | rw [if_pos hz] | (rw [if_neg hz, h1])) | (unfold sp_addv; first | rw [if_pos hz] | (rw [if_neg hz, h2])) | (unfold sp_addk; first | rw [if_pos hz] | rw [if_neg hz]))
    have e9 : ([(o, .inr (4, [.ref ra, .ref va, .int (nI (sp_addk rows row rk)), .long (sp_red rows row 40), .long (sp_redv rows vals row val 40)])), (ra, .inl (cA 1, 40, .inr (.inl (sp_addr rows row)))), (va, .inl (cA 1, 40, .inr (.inl (sp_addv rows vals row val))))] : va_W) = [(o, .inr (4, [.ref ra, .ref va, .int (nI rk), .long (sp_red rows row 40), .long (sp_redv rows vals row val 40)])), (ra, .inl (cA 1, 40, .inr (.inl rows))), (va, .inl (cA 1, 40, .inr (.inl vals)))] := by rw [e9_0, e9_1, e9_2]
    exact W.vret hx hb hr (fun t9 ht9 hW9 => ⟨⟨(), rfl, trivial, by rw [ht9, e9]; exact hP9, by rw [e9]; exact hD9⟩, hS.F ht9⟩) hS.2.2 dX4_add_15
