set_option maxHeartbeats 4000000 in
set_option maxRecDepth 100000 in
theorem c_M_isSource (l : Launch) (dC : Nat → ClassId) (dI : Nat → Nat → Nat) (cA : Nat → ClassId) (mo : Nat) (mw : Nat) (mk : Nat) (mp : Nat) (mz : Nat) (me : Nat) (mtb : Nat) (my : Nat) (mx : Nat) (mu : Nat) (mn : Nat) (mg : Nat) (mf : Nat) (mi : Nat) (mh : Nat) (mv : Nat) (ms : Nat) (cnt : Nat) (hf : Int32) (fro : Int32) (fsz : Nat) (isz : Nat) (z : Int32) (rk : Nat) (lf : Int64) (lo : Int64) (x : Int32)  : Met l yX6_isSource (kw_X6_isSource) ({ frames := 0, cells := 0, slots := 0, locals := 0 }) (va_Pc [.ref mo, .int x] (fun U => kRO dC dI cA [(mo, .inr (6, [.ref mw, .int (nI cnt), .ref mk, .ref mp, .ref mz, .ref me, .ref mtb, .ref my, .ref mx, .ref mu, .ref mn, .ref mg, .int hf, .int fro, .ref mf, .int (nI fsz), .ref mi, .int (nI isz), .int z, .ref mh, .ref mv, .int (nI rk), .long lf, .long lo, .ref ms]))] U)) (vp_Si (fun r => r = sp_has cnt x)) 0 0 (fun _ => False) := by
  refine Met.ofW (cc := cX6_isSource) (maxL := 2) (ret := (some .boolean)) (by decide) rfl ?_
  intro p e s m args below meth c s₁ B hml hv
  obtain ⟨rfl, hP, hK, hN⟩ := hv
  have hx := B.exec
  have hb := B.bytes
  have hr := B.returns
  have hts0 := atoms_spec (ws := (kw_X6_isSource)) B.pre
  have hts : ∀ w ∈ TB, w.before _ s = true := fun w h => hts0 w (List.mem_cons_of_mem _ h)
  have hown : s.vm.findClass RX6 = some m.cls := findClass_of_methodNamed B.named
  have hlocks := B.notSynchronized
  have hk_0 := hts (.fieldLink RX6 59 "FountainRowsModel" "sources" "I") tb_307
  have hl := lv_entry ([.ref mo, .int x]) (n := 2) (Nat.le_of_ble_eq_true rfl)
  rw [lg_entry_eq]
  generalize (lg_sl ([.ref mo, .int x]) ++ List.replicate (2 - (lg_sl ([.ref mo, .int x])).length) Slot.unset).toArray = ls at hl ⊢
  have hl : lv_has ls 2 [(0, .ref mo), (1, .int x)] := hl
  refine lv_iload_n hx hb dX6_isSource_0 rfl (lv_at hl 1 rfl) ?_
  refine lv_if_lt (tgt := 16) hx hb dX6_isSource_1 (by decide) (fun c_1 => ?_) (fun c_1 => ?_)
  · have c_1 : x < 0 := c_1
    refine lv_iconst (v := 0) hx hb dX6_isSource_16 (by decide) ?_
    exact W.zret (v := 0) hx hb hr (by decide) (fun t9 ht9 hW9 => ⟨0, rfl, (by unfold sp_has; rw [if_pos c_1] <;> rfl), ht9⟩) (fun _ h => absurd h List.not_mem_nil) dX6_isSource_17
  · have c_1 : ¬ (x < 0) := c_1
    refine lv_iload_n hx hb dX6_isSource_4 rfl (lv_at hl 1 rfl) ?_
    refine lv_aload_n hx hb dX6_isSource_5 rfl (lv_at hl 0 rfl) ?_
    refine va_get (D := (dC, dI)) (ci := 6) (v := .int (nI cnt)) (C := RX6) (T := TX6) (N := 25) hx hb hts inX6 hown hK hP 0 rfl rfl 1 (by decide) hk_0 (fun _ h9 => h9) rfl dX6_isSource_6 ?_
    refine lv_icmp_ge (tgt := 16) hx hb dX6_isSource_9 (by decide) (fun c_2 => ?_) (fun c_2 => ?_)
    · have c_2 : (nI cnt) ≤ x := c_2
      refine lv_iconst (v := 0) hx hb dX6_isSource_16 (by decide) ?_
      exact W.zret (v := 0) hx hb hr (by decide) (fun t9 ht9 hW9 => ⟨0, rfl, (by unfold sp_has; rw [if_neg c_1, if_pos c_2] <;> rfl), ht9⟩) (fun _ h => absurd h List.not_mem_nil) dX6_isSource_17
    · have c_2 : ¬ ((nI cnt) ≤ x) := c_2
      refine lv_iconst (v := 1) hx hb dX6_isSource_12 (by decide) ?_
      refine lv_goto (tgt := 17) hx hb dX6_isSource_13 (by decide) ?_
      exact W.zret (v := 1) hx hb hr (by decide) (fun t9 ht9 hW9 => ⟨1, rfl, (by unfold sp_has; rw [if_neg c_1, if_neg c_2] <;> rfl), ht9⟩) (fun _ h => absurd h List.not_mem_nil) dX6_isSource_17
set_option maxHeartbeats 4000000 in
set_option maxRecDepth 100000 in
theorem c_M_parts (l : Launch) (dC : Nat → ClassId) (dI : Nat → Nat → Nat) (cA : Nat → ClassId) (mo : Nat) (mw : Nat) (mk : Nat) (mp : Nat) (mz : Nat) (me : Nat) (mtb : Nat) (my : Nat) (mx : Nat) (mu : Nat) (mn : Nat) (mg : Nat) (mf : Nat) (mi : Nat) (mh : Nat) (mv : Nat) (ms : Nat) (cnt : Nat) (hf : Int32) (fro : Int32) (fsz : Nat) (isz : Nat) (z : Int32) (rk : Nat) (lf : Int64) (lo : Int64) (kf : Nat → Int32) (pf : Nat → Int32) (j : Nat) (K : Nat) (P : Nat) (hj4 : j < 4) (hkf : kf j = nI K) (hpf : pf j = nI P) : Met l yX6_parts (kw_X6_parts) ({ frames := 0, cells := 0, slots := 0, locals := 0 }) (va_Pc [.ref mo, .int (nI j)] (fun U => kRO dC dI cA [(mo, .inr (6, [.ref mw, .int (nI cnt), .ref mk, .ref mp, .ref mz, .ref me, .ref mtb, .ref my, .ref mx, .ref mu, .ref mn, .ref mg, .int hf, .int fro, .ref mf, .int (nI fsz), .ref mi, .int (nI isz), .int z, .ref mh, .ref mv, .int (nI rk), .long lf, .long lo, .ref ms])), (mk, .inl (cA 0, 4, .inl kf)), (mp, .inl (cA 0, 4, .inl pf))] U)) (vp_Si (fun r => r = nI (K + P))) 0 0 (fun _ => False) := by
  refine Met.ofW (cc := cX6_parts) (maxL := 2) (ret := (some .int)) (by decide) rfl ?_
  intro p e s m args below meth c s₁ B hml hv
  obtain ⟨rfl, hP, hK, hN⟩ := hv
  have hx := B.exec
  have hb := B.bytes
  have hr := B.returns
  have hts0 := atoms_spec (ws := (kw_X6_parts)) B.pre
  have hts : ∀ w ∈ TB, w.before _ s = true := fun w h => hts0 w (List.mem_cons_of_mem _ h)
  have hown : s.vm.findClass RX6 = some m.cls := findClass_of_methodNamed B.named
  have hlocks := B.notSynchronized
  have hk_0 := hts (.fieldLink RX6 13 "FountainRowsModel" "ks" "[I") tb_308
  have hk_1 := hts (.fieldLink RX6 16 "FountainRowsModel" "ps" "[I") tb_309
  have hl := lv_entry ([.ref mo, .int (nI j)]) (n := 2) (Nat.le_of_ble_eq_true rfl)
  rw [lg_entry_eq]
  generalize (lg_sl ([.ref mo, .int (nI j)]) ++ List.replicate (2 - (lg_sl ([.ref mo, .int (nI j)])).length) Slot.unset).toArray = ls at hl ⊢
  have hl : lv_has ls 2 [(0, .ref mo), (1, .int (nI j))] := hl
  refine lv_aload_n hx hb dX6_parts_0 rfl (lv_at hl 0 rfl) ?_
  refine va_get (D := (dC, dI)) (ci := 6) (v := .ref mk) (C := RX6) (T := TX6) (N := 25) hx hb hts inX6 hown hK hP 0 rfl rfl 2 (by decide) hk_0 (fun _ h9 => h9) rfl dX6_parts_1 ?_
  refine lv_iload_n hx hb dX6_parts_4 rfl (lv_at hl 1 rfl) ?_
  refine va_iald (D := (dC, dI)) hx hb hK hP 1 0 rfl rfl (vp_in_nI hj4 (by omega)) dX6_parts_5 ?_
  refine kt_i (congrArg kf (nI_clamp (by omega : j < 2 ^ 31))) ?_
  refine kt_i (y := nI K) hkf ?_
  refine lv_aload_n hx hb dX6_parts_6 rfl (lv_at hl 0 rfl) ?_
  refine va_get (D := (dC, dI)) (ci := 6) (v := .ref mp) (C := RX6) (T := TX6) (N := 25) hx hb hts inX6 hown hK hP 0 rfl rfl 3 (by decide) hk_1 (fun _ h9 => h9) rfl dX6_parts_7 ?_
  refine lv_iload_n hx hb dX6_parts_10 rfl (lv_at hl 1 rfl) ?_
  refine va_iald (D := (dC, dI)) hx hb hK hP 2 0 rfl rfl (vp_in_nI hj4 (by omega)) dX6_parts_11 ?_
  refine kt_i (congrArg pf (nI_clamp (by omega : j < 2 ^ 31))) ?_
  refine kt_i (y := nI P) hpf ?_
  refine lv_iadd hx hb dX6_parts_12 ?_
  refine kt_i (y := nI (K + P)) (nI_add K P) ?_
  exact W.iret (v := nI (K + P)) hx hb hr (fun t9 ht9 hW9 => ⟨nI (K + P), rfl, rfl, ht9⟩) (fun _ h => absurd h List.not_mem_nil) dX6_parts_13
set_option maxHeartbeats 4000000 in
set_option maxRecDepth 100000 in
theorem c_M_lowest (l : Launch) (dC : Nat → ClassId) (dI : Nat → Nat → Nat) (cA : Nat → ClassId) (mo : Nat) (mw : Nat) (mk : Nat) (mp : Nat) (mz : Nat) (me : Nat) (mtb : Nat) (my : Nat) (mx : Nat) (mu : Nat) (mn : Nat) (mg : Nat) (mf : Nat) (mi : Nat) (mh : Nat) (mv : Nat) (ms : Nat) (cnt : Nat) (hf : Int32) (fro : Int32) (fsz : Nat) (isz : Nat) (z : Int32) (rk : Nat) (lf : Int64) (lo : Int64) (zf : Nat → Int32) (j : Nat) (S : Nat) (v : Int64) (hj4 : j < 4) (hzf : zf j = nI S) : Met l yX6_lowest (kw_X6_lowest) ({ frames := 0, cells := 0, slots := 0, locals := 0 }) (va_Pc [.ref mo, .int (nI j), .long v] (fun U => kRO dC dI cA [(mo, .inr (6, [.ref mw, .int (nI cnt), .ref mk, .ref mp, .ref mz, .ref me, .ref mtb, .ref my, .ref mx, .ref mu, .ref mn, .ref mg, .int hf, .int fro, .ref mf, .int (nI fsz), .ref mi, .int (nI isz), .int z, .ref mh, .ref mv, .int (nI rk), .long lf, .long lo, .ref ms])), (mz, .inl (cA 0, 4, .inl zf))] U)) (vp_Sl (fun r => r = rs_low S v)) 0 0 (fun _ => False) := by
  refine Met.ofW (cc := cX6_lowest) (maxL := 4) (ret := (some .long)) (by decide) rfl ?_
  intro p e s m args below meth c s₁ B hml hv
  obtain ⟨rfl, hP, hK, hN⟩ := hv
  have hx := B.exec
  have hb := B.bytes
  have hr := B.returns
  have hts0 := atoms_spec (ws := (kw_X6_lowest)) B.pre
  have hts : ∀ w ∈ TB, w.before _ s = true := fun w h => hts0 w (List.mem_cons_of_mem _ h)
  have hown : s.vm.findClass RX6 = some m.cls := findClass_of_methodNamed B.named
  have hlocks := B.notSynchronized
  have hk_0 := hts (.fieldLink RX6 19 "FountainRowsModel" "sizes" "[I") tb_310
  have hl := lv_entry ([.ref mo, .int (nI j), .long v]) (n := 4) (Nat.le_of_ble_eq_true rfl)
  rw [lg_entry_eq]
  generalize (lg_sl ([.ref mo, .int (nI j), .long v]) ++ List.replicate (4 - (lg_sl ([.ref mo, .int (nI j), .long v])).length) Slot.unset).toArray = ls at hl ⊢
  have hl : lv_has ls 4 [(0, .ref mo), (1, .int (nI j)), (2, .long v)] := hl
  refine lv_aload_n hx hb dX6_lowest_0 rfl (lv_at hl 0 rfl) ?_
  refine va_get (D := (dC, dI)) (ci := 6) (v := .ref mz) (C := RX6) (T := TX6) (N := 25) hx hb hts inX6 hown hK hP 0 rfl rfl 4 (by decide) hk_0 (fun _ h9 => h9) rfl dX6_lowest_1 ?_
  refine lv_iload_n hx hb dX6_lowest_4 rfl (lv_at hl 1 rfl) ?_
  refine va_iald (D := (dC, dI)) hx hb hK hP 1 0 rfl rfl (vp_in_nI hj4 (by omega)) dX6_lowest_5 ?_
  refine kt_i (congrArg zf (nI_clamp (by omega : j < 2 ^ 31))) ?_
  refine kt_i (y := nI S) hzf ?_
  refine lv_bipush (v := 8) hx hb dX6_lowest_6 (by decide) ?_
  refine lv_icmp_ne (tgt := 15) hx hb dX6_lowest_8 (by decide) (fun c_1 => ?_) (fun c_1 => ?_)
  · have c_1 : ¬ ((nI S) = 8) := c_1
    refine lv_lload_n hx hb dX6_lowest_15 rfl (lv_at hl 2 rfl) ?_
    refine lv_lconst (v := 1) hx hb dX6_lowest_16 (by decide) ?_
    refine lv_bipush (v := 8) hx hb dX6_lowest_17 (by decide) ?_
    refine lv_aload_n hx hb dX6_lowest_19 rfl (lv_at hl 0 rfl) ?_
    refine va_get (D := (dC, dI)) (ci := 6) (v := .ref mz) (C := RX6) (T := TX6) (N := 25) hx hb hts inX6 hown hK hP 0 rfl rfl 4 (by decide) hk_0 (fun _ h9 => h9) rfl dX6_lowest_20 ?_
    refine lv_iload_n hx hb dX6_lowest_23 rfl (lv_at hl 1 rfl) ?_
    refine va_iald (D := (dC, dI)) hx hb hK hP 1 0 rfl rfl (vp_in_nI hj4 (by omega)) dX6_lowest_24 ?_
    refine kt_i (congrArg zf (nI_clamp (by omega : j < 2 ^ 31))) ?_
    refine kt_i (y := nI S) hzf ?_
    refine lv_imul hx hb dX6_lowest_25 ?_
    refine kt_i (y := nI (8 * S)) (pk_mul 8 S) ?_
    refine lv_lshl (v := jv_lshl 1 (nI (8 * S))) hx hb dX6_lowest_26 rfl ?_
    refine lv_lconst (v := 1) hx hb dX6_lowest_27 (by decide) ?_
    refine lv_lsub hx hb dX6_lowest_28 ?_
    refine lv_land hx hb dX6_lowest_29 ?_
    exact W.lret (v := v &&& ((jv_lshl 1 (nI (8 * S))) - 1)) hx hb hr (fun t9 ht9 hW9 => ⟨v &&& ((jv_lshl 1 (nI (8 * S))) - 1), rfl, (by unfold rs_low; rw [if_neg c_1] <;> rfl), ht9⟩) (fun _ h => absurd h List.not_mem_nil) dX6_lowest_30
  · have c_1 : (nI S) = 8 := c_1
    refine lv_lload_n hx hb dX6_lowest_11 rfl (lv_at hl 2 rfl) ?_
    refine lv_goto (tgt := 30) hx hb dX6_lowest_12 (by decide) ?_
    exact W.lret (v := v) hx hb hr (fun t9 ht9 hW9 => ⟨v, rfl, (by unfold rs_low; rw [if_pos c_1] <;> rfl), ht9⟩) (fun _ h => absurd h List.not_mem_nil) dX6_lowest_30
set_option maxHeartbeats 4000000 in
set_option maxRecDepth 100000 in
theorem c_M_drawn (l : Launch) (dC : Nat → ClassId) (dI : Nat → Nat → Nat) (cA : Nat → ClassId) (sz : Nat) (mo : Nat) (mw : Nat) (mk : Nat) (mp : Nat) (mz : Nat) (me : Nat) (mtb : Nat) (my : Nat) (mx : Nat) (mu : Nat) (mn : Nat) (mg : Nat) (mf : Nat) (mi : Nat) (mh : Nat) (mv : Nat) (ms : Nat) (cnt : Nat) (hf : Int32) (fro : Int32) (fsz : Nat) (isz : Nat) (z : Int32) (rk : Nat) (lf : Int64) (lo : Int64)  : Met l yX6_drawn (kw_X6_drawn) ({ frames := 0, cells := 0, slots := 0, locals := 0 }) (va_Pc [.ref mo] (fun U => kRW dC dI cA [(mo, .inr (6, [.ref mw, .int (nI cnt), .ref mk, .ref mp, .ref mz, .ref me, .ref mtb, .ref my, .ref mx, .ref mu, .ref mn, .ref mg, .int hf, .int fro, .ref mf, .int (nI fsz), .ref mi, .int (nI isz), .int z, .ref mh, .ref mv, .int (nI rk), .long lf, .long lo, .ref ms]))] sz U)) (va_Qi (fun r (u : Unit) => r = jv_ushr (sp_next z) (1 : Int32)) (fun (u : Unit) t => kB dC dI (va_A [(mo, .inr (6, [.ref mw, .int (nI cnt), .ref mk, .ref mp, .ref mz, .ref me, .ref mtb, .ref my, .ref mx, .ref mu, .ref mn, .ref mg, .int hf, .int fro, .ref mf, .int (nI fsz), .ref mi, .int (nI isz), .int z, .ref mh, .ref mv, .int (nI rk), .long lf, .long lo, .ref ms]))] sz) [(mo, .inr (6, [.ref mw, .int (nI cnt), .ref mk, .ref mp, .ref mz, .ref me, .ref mtb, .ref my, .ref mx, .ref mu, .ref mn, .ref mg, .int hf, .int fro, .ref mf, .int (nI fsz), .ref mi, .int (nI isz), .int (sp_next z), .ref mh, .ref mv, .int (nI rk), .long lf, .long lo, .ref ms]))] t) (va_A [(mo, .inr (6, [.ref mw, .int (nI cnt), .ref mk, .ref mp, .ref mz, .ref me, .ref mtb, .ref my, .ref mx, .ref mu, .ref mn, .ref mg, .int hf, .int fro, .ref mf, .int (nI fsz), .ref mi, .int (nI isz), .int z, .ref mh, .ref mv, .int (nI rk), .long lf, .long lo, .ref ms]))] sz)) 0 0 (va_A [(mo, .inr (6, [.ref mw, .int (nI cnt), .ref mk, .ref mp, .ref mz, .ref me, .ref mtb, .ref my, .ref mx, .ref mu, .ref mn, .ref mg, .int hf, .int fro, .ref mf, .int (nI fsz), .ref mi, .int (nI isz), .int z, .ref mh, .ref mv, .int (nI rk), .long lf, .long lo, .ref ms]))] sz) := by
  refine Met.ofW (cc := cX6_drawn) (maxL := 1) (ret := (some .int)) (by decide) rfl ?_
  intro p e s m args below meth c s₁ B hml hv
  obtain ⟨rfl, hsz, hP, hK, hN, hD0⟩ := hv
  have hx := B.exec
  have hb := B.bytes
  have hr := B.returns
  have hts0 := atoms_spec (ws := (kw_X6_drawn)) B.pre
  have hts : ∀ w ∈ TB, w.before _ s = true := fun w h => hts0 w (List.mem_cons_of_mem _ h)
  have hown : s.vm.findClass RX6 = some m.cls := findClass_of_methodNamed B.named
  have hlocks := B.notSynchronized
  subst hsz
  have hD := hD0.self (sz := s.heap.size)
  generalize hAe : va_A [(mo, .inr (6, [.ref mw, .int (nI cnt), .ref mk, .ref mp, .ref mz, .ref me, .ref mtb, .ref my, .ref mx, .ref mu, .ref mn, .ref mg, .int hf, .int fro, .ref mf, .int (nI fsz), .ref mi, .int (nI isz), .int z, .ref mh, .ref mv, .int (nI rk), .long lf, .long lo, .ref ms]))] s.heap.size = A at hD ⊢
  have hA : ∀ q : Nat, s.heap.size ≤ q → A q := fun q h => by rw [← hAe]; exact Or.inr h
  have hS : va_S A s.heap s.heap [] := va_S.rf
  have hk_0 := hts (.fieldLink RX6 75 "FountainRowsModel" "z" "I") tb_311
  have hk_1 := hts (.constant RX6 78 1664525) tb_312
  have hk_2 := hts (.constant RX6 79 1013904223) tb_313
  have hl := lv_entry ([.ref mo]) (n := 1) (Nat.le_of_ble_eq_true rfl)
  rw [lg_entry_eq]
  generalize (lg_sl ([.ref mo]) ++ List.replicate (1 - (lg_sl ([.ref mo])).length) Slot.unset).toArray = ls at hl ⊢
  have hl : lv_has ls 1 [(0, .ref mo)] := hl
  refine lv_aload_n hx hb dX6_drawn_0 rfl (lv_at hl 0 rfl) ?_
  refine lv_aload_n hx hb dX6_drawn_1 rfl (lv_at hl 0 rfl) ?_
  refine va_get (D := (dC, dI)) (ci := 6) (v := .int z) (C := RX6) (T := TX6) (N := 25) hx hb hts inX6 hown hK hP 0 rfl rfl 18 (by decide) hk_0 (fun _ h9 => h9) rfl dX6_drawn_2 ?_
  refine lv_ldc (v := 1664525) hx hb hown hk_1 dX6_drawn_5 ?_
  refine lv_imul hx hb dX6_drawn_7 ?_
  refine lv_ldc (v := 1013904223) hx hb hown hk_2 dX6_drawn_8 ?_
  refine lv_iadd hx hb dX6_drawn_10 ?_
  refine va_put (D := (dC, dI)) (ci := 6) (v := .int ((z * 1664525) + 1013904223)) (ty := .int) (C := RX6) (T := TX6) (N := 25) hx hb hts inX6 tyX6 tyX6_ok nmX6 hown hK hP hD hS 0 rfl rfl 18 (by decide) hk_0 (fun _ h9 => h9) rfl (by decide +kernel) rfl rfl (Nat.le_of_ble_eq_true rfl) dX6_drawn_11 (fun H locs hP hD hS => ?_)
  have hP : va_P (dC, dI) vwCl [(mo, .inr (6, [.ref mw, .int (nI cnt), .ref mk, .ref mp, .ref mz, .ref me, .ref mtb, .ref my, .ref mx, .ref mu, .ref mn, .ref mg, .int hf, .int fro, .ref mf, .int (nI fsz), .ref mi, .int (nI isz), .int ((z * 1664525) + 1013904223), .ref mh, .ref mv, .int (nI rk), .long lf, .long lo, .ref ms]))] H := hP
  have hD : va_D A [(mo, .inr (6, [.ref mw, .int (nI cnt), .ref mk, .ref mp, .ref mz, .ref me, .ref mtb, .ref my, .ref mx, .ref mu, .ref mn, .ref mg, .int hf, .int fro, .ref mf, .int (nI fsz), .ref mi, .int (nI isz), .int ((z * 1664525) + 1013904223), .ref mh, .ref mv, .int (nI rk), .long lf, .long lo, .ref ms]))] := hD
  refine lv_aload_n hx hb dX6_drawn_14 rfl (lv_at hl 0 rfl) ?_
  refine va_get (D := (dC, dI)) (ci := 6) (v := .int ((z * 1664525) + 1013904223)) (C := RX6) (T := TX6) (N := 25) hx hb hts inX6 hown hK hP 0 rfl rfl 18 (by decide) hk_0 (fun _ h9 => h9) rfl dX6_drawn_15 ?_
  refine lv_iconst (v := 1) hx hb dX6_drawn_18 (by decide) ?_
  refine lv_iushr (v := jv_ushr ((z * 1664525) + 1013904223) (1 : Int32)) hx hb dX6_drawn_19 rfl ?_
  have hP9 := hP.sub (ws' := [(mo, .inr (6, [.ref mw, .int (nI cnt), .ref mk, .ref mp, .ref mz, .ref me, .ref mtb, .ref my, .ref mx, .ref mu, .ref mn, .ref mg, .int hf, .int fro, .ref mf, .int (nI fsz), .ref mi, .int (nI isz), .int ((z * 1664525) + 1013904223), .ref mh, .ref mv, .int (nI rk), .long lf, .long lo, .ref ms]))]) [0] rfl
  have hD9 := hD.sub (ws' := [(mo, .inr (6, [.ref mw, .int (nI cnt), .ref mk, .ref mp, .ref mz, .ref me, .ref mtb, .ref my, .ref mx, .ref mu, .ref mn, .ref mg, .int hf, .int fro, .ref mf, .int (nI fsz), .ref mi, .int (nI isz), .int ((z * 1664525) + 1013904223), .ref mh, .ref mv, .int (nI rk), .long lf, .long lo, .ref ms]))]) [0] (by decide) rfl
  have e9_0 : sp_next z = (z * 1664525) + 1013904223 := rfl
  have e9 : ([(mo, .inr (6, [.ref mw, .int (nI cnt), .ref mk, .ref mp, .ref mz, .ref me, .ref mtb, .ref my, .ref mx, .ref mu, .ref mn, .ref mg, .int hf, .int fro, .ref mf, .int (nI fsz), .ref mi, .int (nI isz), .int (sp_next z), .ref mh, .ref mv, .int (nI rk), .long lf, .long lo, .ref ms]))] : va_W) = [(mo, .inr (6, [.ref mw, .int (nI cnt), .ref mk, .ref mp, .ref mz, .ref me, .ref mtb, .ref my, .ref mx, .ref mu, .ref mn, .ref mg, .int hf, .int fro, .ref mf, .int (nI fsz), .ref mi, .int (nI isz), .int ((z * 1664525) + 1013904223), .ref mh, .ref mv, .int (nI rk), .long lf, .long lo, .ref ms]))] := by rw [e9_0]
  exact W.iret (v := jv_ushr ((z * 1664525) + 1013904223) (1 : Int32)) hx hb hr (fun t9 ht9 hW9 => ⟨⟨jv_ushr ((z * 1664525) + 1013904223) (1 : Int32), (), rfl, rfl, by rw [ht9, e9]; exact hP9, by rw [e9]; exact hD9⟩, hS.F ht9⟩) hS.2.2 dX6_drawn_20
set_option maxHeartbeats 4000000 in
set_option maxRecDepth 100000 in
theorem c_M_count (l : Launch) (dC : Nat → ClassId) (dI : Nat → Nat → Nat) (cA : Nat → ClassId) (v : Int64)  : Met l yX6_count (kw_X6_count) ({ frames := 0, cells := 0, slots := 0, locals := 0 }) (va_Pc [.long v] (fun U => kRO dC dI cA [] U)) (vp_Si (fun r => r = nI (rs_cnt v 40))) 0 0 (fun _ => False) := by
  refine Met.ofW (cc := cX6_count) (maxL := 4) (ret := (some .int)) (by decide) rfl ?_
  intro p e s m args below meth c s₁ B hml hv
  obtain ⟨rfl, hP, hK, hN⟩ := hv
  have hx := B.exec
  have hb := B.bytes
  have hr := B.returns
  have hts0 := atoms_spec (ws := (kw_X6_count)) B.pre
  have hts : ∀ w ∈ TB, w.before _ s = true := fun w h => hts0 w (List.mem_cons_of_mem _ h)
  have hown : s.vm.findClass RX6 = some m.cls := findClass_of_methodNamed B.named
  have hlocks := B.notSynchronized
  have hl := lv_entry ([.long v]) (n := 4) (Nat.le_of_ble_eq_true rfl)
  rw [lg_entry_eq]
  generalize (lg_sl ([.long v]) ++ List.replicate (4 - (lg_sl ([.long v])).length) Slot.unset).toArray = ls at hl ⊢
  have hl : lv_has ls 4 [(0, .long v)] := hl
  refine lv_iconst (v := 0) hx hb dX6_count_0 (by decide) ?_
  refine lv_istore_n (lv' := [(2, .int 0), (0, .long v)]) hx hb dX6_count_1 rfl hl (by decide) rfl (fun ls hl => ?_)
  refine lv_iconst (v := 0) hx hb dX6_count_2 (by decide) ?_
  refine lv_istore_n (lv' := [(3, .int 0), (2, .int 0), (0, .long v)]) hx hb dX6_count_3 rfl hl (by decide) rfl (fun ls hl => ?_)
  have hi_hk : 0 ≤ 40 := (by omega)
  have hi_hn9 : 0 = rs_cnt v 0 := rfl
  have hl9 : lv_has ls 4 [(3, .int (nI 0)), (2, .int (nI 0)), (0, .long v)] := lv_sub hl [0, 1, 2] rfl
  refine r_loop2 (I := fun (k : Nat) (n : Nat) (ls : Array Slot) => (k ≤ 40) ∧ (n = rs_cnt v k) ∧ lv_has ls 4 [(3, .int (nI k)), (2, .int (nI n)), (0, .long v)]) (μ := fun k n => 40 - k) ?_ 0 0 ⟨hi_hk, hi_hn9, hl9⟩
  intro k n ls hI9 ih_L0
  obtain ⟨hk, hn9, hl⟩ := hI9
  refine lv_iload_n hx hb dX6_count_4 rfl (lv_at hl 0 rfl) ?_
  refine lv_bipush (v := 40) hx hb dX6_count_5 (by decide) ?_
  refine lv_icmp_ge (tgt := 25) hx hb dX6_count_7 (by decide) (fun c_1 => ?_) (fun c_1 => ?_)
  · have c_1 : 40 ≤ (nI k) := c_1
    have hk9 : 40 ≤ k := (ku_le (a := 40) (b := k) (by omega) (by omega)).mp c_1
    refine lv_iload_n hx hb dX6_count_25 rfl (lv_at hl 1 rfl) ?_
    exact W.iret (v := nI n) hx hb hr (fun t9 ht9 hW9 => ⟨nI n, rfl, (by have e : k = 40 := (by omega); rw [hn9, e]), ht9⟩) (fun _ h => absurd h List.not_mem_nil) dX6_count_26
  · have c_1 : ¬ (40 ≤ (nI k)) := c_1
    have hk9 : k < 40 := (ku_nle (a := 40) (b := k) (by omega) (by omega)).mp c_1
    refine lv_iload_n hx hb dX6_count_10 rfl (lv_at hl 1 rfl) ?_
    refine lv_lload_n hx hb dX6_count_11 rfl (lv_at hl 2 rfl) ?_
    refine lv_iload_n hx hb dX6_count_12 rfl (lv_at hl 0 rfl) ?_
    refine lv_lshr (v := jv_lshr v (nI k)) hx hb dX6_count_13 rfl ?_
    refine lv_lconst (v := 1) hx hb dX6_count_14 (by decide) ?_
    refine lv_land hx hb dX6_count_15 ?_
    refine lv_l2i (v := ((jv_lshr v (nI k)) &&& 1).toInt32) hx hb dX6_count_16 rfl ?_
    refine lv_iadd hx hb dX6_count_17 ?_
    refine lv_istore_n (lv' := [(2, .int ((nI n) + (((jv_lshr v (nI k)) &&& 1).toInt32))), (3, .int (nI k)), (0, .long v)]) hx hb dX6_count_18 rfl hl (by decide) rfl (fun ls hl => ?_)
    have el_2 : (nI n) + (((jv_lshr v (nI k)) &&& 1).toInt32) = nI (n + rs_b v k) := (rs_cnt_step v k n)
    rw [el_2] at hl
    refine lv_iinc (v := nI (k + 1)) (lv' := [(3, .int (nI (k + 1))), (2, .int (nI (n + rs_b v k))), (0, .long v)]) hx hb dX6_count_19 hl (k := 1) rfl (nI_succ _).symm (by decide) rfl (fun ls hl => ?_)
    refine lv_goto (tgt := 4) hx hb dX6_count_22 (by decide) ?_
    have hi_hk : (k + 1) ≤ 40 := (by omega)
    have hi_hn9 : (n + rs_b v k) = rs_cnt v (k + 1) := (by rw [hn9]; rfl)
    have hl9 : lv_has ls 4 [(3, .int (nI (k + 1))), (2, .int (nI (n + rs_b v k))), (0, .long v)] := lv_sub hl [0, 1, 2] rfl
    exact ih_L0 (k + 1) (n + rs_b v k) ls ⟨hi_hk, hi_hn9, hl9⟩ (by show 40 - (k + 1) < 40 - k; omega)
set_option maxHeartbeats 4000000 in
set_option maxRecDepth 100000 in
theorem c_M_isPart_no (l : Launch) (dC : Nat → ClassId) (dI : Nat → Nat → Nat) (cA : Nat → ClassId) (mo : Nat) (mw : Nat) (mk : Nat) (mp : Nat) (mz : Nat) (me : Nat) (mtb : Nat) (my : Nat) (mx : Nat) (mu : Nat) (mn : Nat) (mg : Nat) (mf : Nat) (mi : Nat) (mh : Nat) (mv : Nat) (ms : Nat) (cnt : Nat) (hf : Int32) (fro : Int32) (fsz : Nat) (isz : Nat) (z : Int32) (rk : Nat) (lf : Int64) (lo : Int64) (x : Int32) (i : Int32) (hno : sp_has cnt x = 0) : Met l yX6_isPart (kw_X6_isPart) ({ frames := 1, cells := 0, slots := 0, locals := 21 }) (va_Pc [.ref mo, .int x, .int i] (fun U => kRO dC dI cA [(mo, .inr (6, [.ref mw, .int (nI cnt), .ref mk, .ref mp, .ref mz, .ref me, .ref mtb, .ref my, .ref mx, .ref mu, .ref mn, .ref mg, .int hf, .int fro, .ref mf, .int (nI fsz), .ref mi, .int (nI isz), .int z, .ref mh, .ref mv, .int (nI rk), .long lf, .long lo, .ref ms]))] U)) (vp_Si (fun r => r = 0)) 0 0 (fun _ => False) := by
  refine Met.ofW (cc := cX6_isPart) (maxL := 3) (ret := (some .boolean)) (by decide) rfl ?_
  intro p e s m args below meth c s₁ B hml hv
  obtain ⟨rfl, hP, hK, hN⟩ := hv
  have hx := B.exec
  have hb := B.bytes
  have hr := B.returns
  have hts0 := atoms_spec (ws := (kw_X6_isPart)) B.pre
  have hts : ∀ w ∈ TB, w.before _ s = true := fun w h => hts0 w (List.mem_cons_of_mem _ h)
  have hown : s.vm.findClass RX6 = some m.cls := findClass_of_methodNamed B.named
  have hlocks := B.notSynchronized
  have hl := lv_entry ([.ref mo, .int x, .int i]) (n := 3) (Nat.le_of_ble_eq_true rfl)
  rw [lg_entry_eq]
  generalize (lg_sl ([.ref mo, .int x, .int i]) ++ List.replicate (3 - (lg_sl ([.ref mo, .int x, .int i])).length) Slot.unset).toArray = ls at hl ⊢
  have hl : lv_has ls 3 [(0, .ref mo), (1, .int x), (2, .int i)] := hl
  refine lv_aload_n hx hb dX6_isPart_0 rfl (lv_at hl 0 rfl) ?_
  refine lv_iload_n hx hb dX6_isPart_1 rfl (lv_at hl 1 rfl) ?_
  have hPc := hP.sub (ws' := [(mo, .inr (6, [.ref mw, .int (nI cnt), .ref mk, .ref mp, .ref mz, .ref me, .ref mtb, .ref my, .ref mx, .ref mu, .ref mn, .ref mg, .int hf, .int fro, .ref mf, .int (nI fsz), .ref mi, .int (nI isz), .int z, .ref mh, .ref mv, .int (nI rk), .long lf, .long lo, .ref ms]))]) [0] rfl
  refine kq_csi (va_runV (As := [.int x]) (rest := []) ⟨hx, hb, hml, hown, hts⟩ (c_M_isSource l dC dI cA mo mw mk mp mz me mtb my mx mu mn mg mf mi mh mv ms cnt hf fro fsz isz z rk lf lo x) (cwV 1 hts (kg_V tb_315 tb_316 tb_317 tb_318 tb_314) rfl rfl rfl (by decide +kernel) ⟨Nat.le_of_ble_eq_true rfl, Nat.le_of_ble_eq_true rfl⟩) (kpv_ro hK hN hPc (ci := 6) (q0 := 0) rfl rfl rfl) rfl rfl hl.1 rfl (lv_room (Nat.le_of_ble_eq_true rfl)) dX6_isPart_2 ⟨Nat.le_of_ble_eq_true rfl, Nat.le_of_ble_eq_true rfl⟩) (fun r_1 hr_1 => ?_)
  refine kt_i (y := sp_has cnt x) hr_1 ?_
  refine lv_if_eq (tgt := 25) hx hb dX6_isPart_5 (by decide) (fun c_2 => ?_) (fun c_2 => ?_)
  · have c_2 : (sp_has cnt x) = 0 := c_2
    refine lv_iconst (v := 0) hx hb dX6_isPart_25 (by decide) ?_
    exact W.zret (v := 0) hx hb hr (by decide) (fun t9 ht9 hW9 => ⟨0, rfl, rfl, ht9⟩) (fun _ h => absurd h List.not_mem_nil) dX6_isPart_26
  · have c_2 : ¬ ((sp_has cnt x) = 0) := c_2
    exact absurd hno c_2
set_option maxHeartbeats 4000000 in
set_option maxRecDepth 100000 in
theorem c_M_symbol_no (l : Launch) (dC : Nat → ClassId) (dI : Nat → Nat → Nat) (cA : Nat → ClassId) (mo : Nat) (mw : Nat) (mk : Nat) (mp : Nat) (mz : Nat) (me : Nat) (mtb : Nat) (my : Nat) (mx : Nat) (mu : Nat) (mn : Nat) (mg : Nat) (mf : Nat) (mi : Nat) (mh : Nat) (mv : Nat) (ms : Nat) (cnt : Nat) (hf : Int32) (fro : Int32) (fsz : Nat) (isz : Nat) (z : Int32) (rk : Nat) (lf : Int64) (lo : Int64) (x : Int32) (i : Int32) (v : Int64) (hno : sp_has cnt x = 0) : Met l yX6_symbol (kw_X6_symbol) ({ frames := 1, cells := 0, slots := 0, locals := 21 }) (va_Pc [.ref mo, .int x, .int i, .long v] (fun U => kRO dC dI cA [(mo, .inr (6, [.ref mw, .int (nI cnt), .ref mk, .ref mp, .ref mz, .ref me, .ref mtb, .ref my, .ref mx, .ref mu, .ref mn, .ref mg, .int hf, .int fro, .ref mf, .int (nI fsz), .ref mi, .int (nI isz), .int z, .ref mh, .ref mv, .int (nI rk), .long lf, .long lo, .ref ms]))] U)) (vp_Si (fun r => r = (-1))) 0 0 (fun _ => False) := by
  refine Met.ofW (cc := cX6_symbol) (maxL := 5) (ret := (some .int)) (by decide) rfl ?_
  intro p e s m args below meth c s₁ B hml hv
  obtain ⟨rfl, hP, hK, hN⟩ := hv
  have hx := B.exec
  have hb := B.bytes
  have hr := B.returns
  have hts0 := atoms_spec (ws := (kw_X6_symbol)) B.pre
  have hts : ∀ w ∈ TB, w.before _ s = true := fun w h => hts0 w (List.mem_cons_of_mem _ h)
  have hown : s.vm.findClass RX6 = some m.cls := findClass_of_methodNamed B.named
  have hlocks := B.notSynchronized
  have hl := lv_entry ([.ref mo, .int x, .int i, .long v]) (n := 5) (Nat.le_of_ble_eq_true rfl)
  rw [lg_entry_eq]
  generalize (lg_sl ([.ref mo, .int x, .int i, .long v]) ++ List.replicate (5 - (lg_sl ([.ref mo, .int x, .int i, .long v])).length) Slot.unset).toArray = ls at hl ⊢
  have hl : lv_has ls 5 [(0, .ref mo), (1, .int x), (2, .int i), (3, .long v)] := hl
  refine lv_aload_n hx hb dX6_symbol_0 rfl (lv_at hl 0 rfl) ?_
  refine lv_iload_n hx hb dX6_symbol_1 rfl (lv_at hl 1 rfl) ?_
  have hPc := hP.sub (ws' := [(mo, .inr (6, [.ref mw, .int (nI cnt), .ref mk, .ref mp, .ref mz, .ref me, .ref mtb, .ref my, .ref mx, .ref mu, .ref mn, .ref mg, .int hf, .int fro, .ref mf, .int (nI fsz), .ref mi, .int (nI isz), .int z, .ref mh, .ref mv, .int (nI rk), .long lf, .long lo, .ref ms]))]) [0] rfl
  refine kq_csi (va_runV (As := [.int x]) (rest := []) ⟨hx, hb, hml, hown, hts⟩ (c_M_isSource l dC dI cA mo mw mk mp mz me mtb my mx mu mn mg mf mi mh mv ms cnt hf fro fsz isz z rk lf lo x) (cwV 1 hts (kg_V tb_315 tb_316 tb_317 tb_318 tb_314) rfl rfl rfl (by decide +kernel) ⟨Nat.le_of_ble_eq_true rfl, Nat.le_of_ble_eq_true rfl⟩) (kpv_ro hK hN hPc (ci := 6) (q0 := 0) rfl rfl rfl) rfl rfl hl.1 rfl (lv_room (Nat.le_of_ble_eq_true rfl)) dX6_symbol_2 ⟨Nat.le_of_ble_eq_true rfl, Nat.le_of_ble_eq_true rfl⟩) (fun r_1 hr_1 => ?_)
  refine kt_i (y := sp_has cnt x) hr_1 ?_
  refine lv_if_eq (tgt := 22) hx hb dX6_symbol_5 (by decide) (fun c_2 => ?_) (fun c_2 => ?_)
  · have c_2 : (sp_has cnt x) = 0 := c_2
    refine lv_iconst (v := (-1)) hx hb dX6_symbol_22 (by decide) ?_
    exact W.iret (v := (-1)) hx hb hr (fun t9 ht9 hW9 => ⟨(-1), rfl, rfl, ht9⟩) (fun _ h => absurd h List.not_mem_nil) dX6_symbol_23
  · have c_2 : ¬ ((sp_has cnt x) = 0) := c_2
    exact absurd hno c_2
set_option maxHeartbeats 4000000 in
set_option maxRecDepth 100000 in
theorem c_M_row_no (l : Launch) (dC : Nat → ClassId) (dI : Nat → Nat → Nat) (cA : Nat → ClassId) (mo : Nat) (mw : Nat) (mk : Nat) (mp : Nat) (mz : Nat) (me : Nat) (mtb : Nat) (my : Nat) (mx : Nat) (mu : Nat) (mn : Nat) (mg : Nat) (mf : Nat) (mi : Nat) (mh : Nat) (mv : Nat) (ms : Nat) (cnt : Nat) (hf : Int32) (fro : Int32) (fsz : Nat) (isz : Nat) (z : Int32) (rk : Nat) (lf : Int64) (lo : Int64) (x : Int32) (i : Int32) (hno : sp_has cnt x = 0) : Met l yX6_row (kw_X6_row) ({ frames := 1, cells := 0, slots := 0, locals := 21 }) (va_Pc [.ref mo, .int x, .int i] (fun U => kRO dC dI cA [(mo, .inr (6, [.ref mw, .int (nI cnt), .ref mk, .ref mp, .ref mz, .ref me, .ref mtb, .ref my, .ref mx, .ref mu, .ref mn, .ref mg, .int hf, .int fro, .ref mf, .int (nI fsz), .ref mi, .int (nI isz), .int z, .ref mh, .ref mv, .int (nI rk), .long lf, .long lo, .ref ms]))] U)) (vp_Sl (fun r => r = (-1))) 0 0 (fun _ => False) := by
  refine Met.ofW (cc := cX6_row) (maxL := 3) (ret := (some .long)) (by decide) rfl ?_
  intro p e s m args below meth c s₁ B hml hv
  obtain ⟨rfl, hP, hK, hN⟩ := hv
  have hx := B.exec
  have hb := B.bytes
  have hr := B.returns
  have hts0 := atoms_spec (ws := (kw_X6_row)) B.pre
  have hts : ∀ w ∈ TB, w.before _ s = true := fun w h => hts0 w (List.mem_cons_of_mem _ h)
  have hown : s.vm.findClass RX6 = some m.cls := findClass_of_methodNamed B.named
  have hlocks := B.notSynchronized
  have hk_0 := hts (.constantLong RX6 95 (-1)) tb_319
  have hl := lv_entry ([.ref mo, .int x, .int i]) (n := 3) (Nat.le_of_ble_eq_true rfl)
  rw [lg_entry_eq]
  generalize (lg_sl ([.ref mo, .int x, .int i]) ++ List.replicate (3 - (lg_sl ([.ref mo, .int x, .int i])).length) Slot.unset).toArray = ls at hl ⊢
  have hl : lv_has ls 3 [(0, .ref mo), (1, .int x), (2, .int i)] := hl
  refine lv_aload_n hx hb dX6_row_0 rfl (lv_at hl 0 rfl) ?_
  refine lv_iload_n hx hb dX6_row_1 rfl (lv_at hl 1 rfl) ?_
  have hPc := hP.sub (ws' := [(mo, .inr (6, [.ref mw, .int (nI cnt), .ref mk, .ref mp, .ref mz, .ref me, .ref mtb, .ref my, .ref mx, .ref mu, .ref mn, .ref mg, .int hf, .int fro, .ref mf, .int (nI fsz), .ref mi, .int (nI isz), .int z, .ref mh, .ref mv, .int (nI rk), .long lf, .long lo, .ref ms]))]) [0] rfl
  refine kq_csi (va_runV (As := [.int x]) (rest := []) ⟨hx, hb, hml, hown, hts⟩ (c_M_isSource l dC dI cA mo mw mk mp mz me mtb my mx mu mn mg mf mi mh mv ms cnt hf fro fsz isz z rk lf lo x) (cwV 1 hts (kg_V tb_315 tb_316 tb_317 tb_318 tb_314) rfl rfl rfl (by decide +kernel) ⟨Nat.le_of_ble_eq_true rfl, Nat.le_of_ble_eq_true rfl⟩) (kpv_ro hK hN hPc (ci := 6) (q0 := 0) rfl rfl rfl) rfl rfl hl.1 rfl (lv_room (Nat.le_of_ble_eq_true rfl)) dX6_row_2 ⟨Nat.le_of_ble_eq_true rfl, Nat.le_of_ble_eq_true rfl⟩) (fun r_1 hr_1 => ?_)
  refine kt_i (y := sp_has cnt x) hr_1 ?_
  refine lv_if_ne (tgt := 14) hx hb dX6_row_5 (by decide) (fun c_2 => ?_) (fun c_2 => ?_)
  · have c_2 : ¬ ((sp_has cnt x) = 0) := c_2
    exact absurd hno c_2
  · have c_2 : (sp_has cnt x) = 0 := c_2
    refine lv_ldc2 (v := (-1)) hx hb hown hk_0 dX6_row_8 ?_
    refine lv_goto (tgt := 36) hx hb dX6_row_11 (by decide) ?_
    exact W.lret (v := (-1)) hx hb hr (fun t9 ht9 hW9 => ⟨(-1), rfl, rfl, ht9⟩) (fun _ h => absurd h List.not_mem_nil) dX6_row_36
set_option maxHeartbeats 4000000 in
set_option maxRecDepth 100000 in
theorem c_M_sumRow_no (l : Launch) (dC : Nat → ClassId) (dI : Nat → Nat → Nat) (cA : Nat → ClassId) (mo : Nat) (mw : Nat) (mk : Nat) (mp : Nat) (mz : Nat) (me : Nat) (mtb : Nat) (my : Nat) (mx : Nat) (mu : Nat) (mn : Nat) (mg : Nat) (mf : Nat) (mi : Nat) (mh : Nat) (mv : Nat) (ms : Nat) (cnt : Nat) (hf : Int32) (fro : Int32) (fsz : Nat) (isz : Nat) (z : Int32) (rk : Nat) (lf : Int64) (lo : Int64) (x : Int32) (i : Int32) (hno : sp_has cnt x = 0) : Met l yX6_sumRow (kw_X6_sumRow) ({ frames := 1, cells := 0, slots := 0, locals := 21 }) (va_Pc [.ref mo, .int x, .int i] (fun U => kRO dC dI cA [(mo, .inr (6, [.ref mw, .int (nI cnt), .ref mk, .ref mp, .ref mz, .ref me, .ref mtb, .ref my, .ref mx, .ref mu, .ref mn, .ref mg, .int hf, .int fro, .ref mf, .int (nI fsz), .ref mi, .int (nI isz), .int z, .ref mh, .ref mv, .int (nI rk), .long lf, .long lo, .ref ms]))] U)) (vp_Sl (fun r => r = (-1))) 0 0 (fun _ => False) := by
  refine Met.ofW (cc := cX6_sumRow) (maxL := 3) (ret := (some .long)) (by decide) rfl ?_
  intro p e s m args below meth c s₁ B hml hv
  obtain ⟨rfl, hP, hK, hN⟩ := hv
  have hx := B.exec
  have hb := B.bytes
  have hr := B.returns
  have hts0 := atoms_spec (ws := (kw_X6_sumRow)) B.pre
  have hts : ∀ w ∈ TB, w.before _ s = true := fun w h => hts0 w (List.mem_cons_of_mem _ h)
  have hown : s.vm.findClass RX6 = some m.cls := findClass_of_methodNamed B.named
  have hlocks := B.notSynchronized
  have hk_0 := hts (.constantLong RX6 95 (-1)) tb_319
  have hl := lv_entry ([.ref mo, .int x, .int i]) (n := 3) (Nat.le_of_ble_eq_true rfl)
  rw [lg_entry_eq]
  generalize (lg_sl ([.ref mo, .int x, .int i]) ++ List.replicate (3 - (lg_sl ([.ref mo, .int x, .int i])).length) Slot.unset).toArray = ls at hl ⊢
  have hl : lv_has ls 3 [(0, .ref mo), (1, .int x), (2, .int i)] := hl
  refine lv_aload_n hx hb dX6_sumRow_0 rfl (lv_at hl 0 rfl) ?_
  refine lv_iload_n hx hb dX6_sumRow_1 rfl (lv_at hl 1 rfl) ?_
  have hPc := hP.sub (ws' := [(mo, .inr (6, [.ref mw, .int (nI cnt), .ref mk, .ref mp, .ref mz, .ref me, .ref mtb, .ref my, .ref mx, .ref mu, .ref mn, .ref mg, .int hf, .int fro, .ref mf, .int (nI fsz), .ref mi, .int (nI isz), .int z, .ref mh, .ref mv, .int (nI rk), .long lf, .long lo, .ref ms]))]) [0] rfl
  refine kq_csi (va_runV (As := [.int x]) (rest := []) ⟨hx, hb, hml, hown, hts⟩ (c_M_isSource l dC dI cA mo mw mk mp mz me mtb my mx mu mn mg mf mi mh mv ms cnt hf fro fsz isz z rk lf lo x) (cwV 1 hts (kg_V tb_315 tb_316 tb_317 tb_318 tb_314) rfl rfl rfl (by decide +kernel) ⟨Nat.le_of_ble_eq_true rfl, Nat.le_of_ble_eq_true rfl⟩) (kpv_ro hK hN hPc (ci := 6) (q0 := 0) rfl rfl rfl) rfl rfl hl.1 rfl (lv_room (Nat.le_of_ble_eq_true rfl)) dX6_sumRow_2 ⟨Nat.le_of_ble_eq_true rfl, Nat.le_of_ble_eq_true rfl⟩) (fun r_1 hr_1 => ?_)
  refine kt_i (y := sp_has cnt x) hr_1 ?_
  refine lv_if_eq (tgt := 22) hx hb dX6_sumRow_5 (by decide) (fun c_2 => ?_) (fun c_2 => ?_)
  · have c_2 : (sp_has cnt x) = 0 := c_2
    refine lv_ldc2 (v := (-1)) hx hb hown hk_0 dX6_sumRow_22 ?_
    refine lv_goto (tgt := 34) hx hb dX6_sumRow_25 (by decide) ?_
    exact W.lret (v := (-1)) hx hb hr (fun t9 ht9 hW9 => ⟨(-1), rfl, rfl, ht9⟩) (fun _ h => absurd h List.not_mem_nil) dX6_sumRow_34
  · have c_2 : ¬ ((sp_has cnt x) = 0) := c_2
    exact absurd hno c_2
set_option maxHeartbeats 4000000 in
set_option maxRecDepth 100000 in
theorem c_M_frame_no (l : Launch) (dC : Nat → ClassId) (dI : Nat → Nat → Nat) (cA : Nat → ClassId) (mo : Nat) (mw : Nat) (mk : Nat) (mp : Nat) (mz : Nat) (me : Nat) (mtb : Nat) (my : Nat) (mx : Nat) (mu : Nat) (mn : Nat) (mg : Nat) (mf : Nat) (mi : Nat) (mh : Nat) (mv : Nat) (ms : Nat) (cnt : Nat) (hf : Int32) (fro : Int32) (fsz : Nat) (isz : Nat) (z : Int32) (rk : Nat) (lf : Int64) (lo : Int64) (x : Int32) (i : Int32) (hno : sp_has cnt x = 0) : Met l yX6_frame (kw_X6_frame) ({ frames := 1, cells := 0, slots := 0, locals := 21 }) (va_Pc [.ref mo, .int x, .int i] (fun U => kRO dC dI cA [(mo, .inr (6, [.ref mw, .int (nI cnt), .ref mk, .ref mp, .ref mz, .ref me, .ref mtb, .ref my, .ref mx, .ref mu, .ref mn, .ref mg, .int hf, .int fro, .ref mf, .int (nI fsz), .ref mi, .int (nI isz), .int z, .ref mh, .ref mv, .int (nI rk), .long lf, .long lo, .ref ms]))] U)) (vp_Si (fun r => r = (-1))) 0 0 (fun _ => False) := by
  refine Met.ofW (cc := cX6_frame) (maxL := 7) (ret := (some .int)) (by decide) rfl ?_
  intro p e s m args below meth c s₁ B hml hv
  obtain ⟨rfl, hP, hK, hN⟩ := hv
  have hx := B.exec
  have hb := B.bytes
  have hr := B.returns
  have hts0 := atoms_spec (ws := (kw_X6_frame)) B.pre
  have hts : ∀ w ∈ TB, w.before _ s = true := fun w h => hts0 w (List.mem_cons_of_mem _ h)
  have hown : s.vm.findClass RX6 = some m.cls := findClass_of_methodNamed B.named
  have hlocks := B.notSynchronized
  have hl := lv_entry ([.ref mo, .int x, .int i]) (n := 7) (Nat.le_of_ble_eq_true rfl)
  rw [lg_entry_eq]
  generalize (lg_sl ([.ref mo, .int x, .int i]) ++ List.replicate (7 - (lg_sl ([.ref mo, .int x, .int i])).length) Slot.unset).toArray = ls at hl ⊢
  have hl : lv_has ls 7 [(0, .ref mo), (1, .int x), (2, .int i)] := hl
  refine lv_aload_n hx hb dX6_frame_0 rfl (lv_at hl 0 rfl) ?_
  refine lv_iload_n hx hb dX6_frame_1 rfl (lv_at hl 1 rfl) ?_
  have hPc := hP.sub (ws' := [(mo, .inr (6, [.ref mw, .int (nI cnt), .ref mk, .ref mp, .ref mz, .ref me, .ref mtb, .ref my, .ref mx, .ref mu, .ref mn, .ref mg, .int hf, .int fro, .ref mf, .int (nI fsz), .ref mi, .int (nI isz), .int z, .ref mh, .ref mv, .int (nI rk), .long lf, .long lo, .ref ms]))]) [0] rfl
  refine kq_csi (va_runV (As := [.int x]) (rest := []) ⟨hx, hb, hml, hown, hts⟩ (c_M_isSource l dC dI cA mo mw mk mp mz me mtb my mx mu mn mg mf mi mh mv ms cnt hf fro fsz isz z rk lf lo x) (cwV 1 hts (kg_V tb_315 tb_316 tb_317 tb_318 tb_314) rfl rfl rfl (by decide +kernel) ⟨Nat.le_of_ble_eq_true rfl, Nat.le_of_ble_eq_true rfl⟩) (kpv_ro hK hN hPc (ci := 6) (q0 := 0) rfl rfl rfl) rfl rfl hl.1 rfl (lv_room (Nat.le_of_ble_eq_true rfl)) dX6_frame_2 ⟨Nat.le_of_ble_eq_true rfl, Nat.le_of_ble_eq_true rfl⟩) (fun r_1 hr_1 => ?_)
  refine kt_i (y := sp_has cnt x) hr_1 ?_
  refine lv_if_ne (tgt := 10) hx hb dX6_frame_5 (by decide) (fun c_2 => ?_) (fun c_2 => ?_)
  · have c_2 : ¬ ((sp_has cnt x) = 0) := c_2
    exact absurd hno c_2
  · have c_2 : (sp_has cnt x) = 0 := c_2
    refine lv_iconst (v := (-1)) hx hb dX6_frame_8 (by decide) ?_
    exact W.iret (v := (-1)) hx hb hr (fun t9 ht9 hW9 => ⟨(-1), rfl, rfl, ht9⟩) (fun _ h => absurd h List.not_mem_nil) dX6_frame_9
set_option maxHeartbeats 4000000 in
set_option maxRecDepth 100000 in
theorem c_M_told_no (l : Launch) (dC : Nat → ClassId) (dI : Nat → Nat → Nat) (cA : Nat → ClassId) (mo : Nat) (mw : Nat) (mk : Nat) (mp : Nat) (mz : Nat) (me : Nat) (mtb : Nat) (my : Nat) (mx : Nat) (mu : Nat) (mn : Nat) (mg : Nat) (mf : Nat) (mi : Nat) (mh : Nat) (mv : Nat) (ms : Nat) (cnt : Nat) (hf : Int32) (fro : Int32) (fsz : Nat) (isz : Nat) (z : Int32) (rk : Nat) (lf : Int64) (lo : Int64) (x : Int32) (i : Int32) (hno : sp_has cnt x = 0) : Met l yX6_told (kw_X6_told) ({ frames := 1, cells := 0, slots := 0, locals := 21 }) (va_Pc [.ref mo, .int x, .int i] (fun U => kRO dC dI cA [(mo, .inr (6, [.ref mw, .int (nI cnt), .ref mk, .ref mp, .ref mz, .ref me, .ref mtb, .ref my, .ref mx, .ref mu, .ref mn, .ref mg, .int hf, .int fro, .ref mf, .int (nI fsz), .ref mi, .int (nI isz), .int z, .ref mh, .ref mv, .int (nI rk), .long lf, .long lo, .ref ms]))] U)) (vp_Si (fun r => r = (-1))) 0 0 (fun _ => False) := by
  refine Met.ofW (cc := cX6_told) (maxL := 5) (ret := (some .int)) (by decide) rfl ?_
  intro p e s m args below meth c s₁ B hml hv
  obtain ⟨rfl, hP, hK, hN⟩ := hv
  have hx := B.exec
  have hb := B.bytes
  have hr := B.returns
  have hts0 := atoms_spec (ws := (kw_X6_told)) B.pre
  have hts : ∀ w ∈ TB, w.before _ s = true := fun w h => hts0 w (List.mem_cons_of_mem _ h)
  have hown : s.vm.findClass RX6 = some m.cls := findClass_of_methodNamed B.named
  have hlocks := B.notSynchronized
  have hl := lv_entry ([.ref mo, .int x, .int i]) (n := 5) (Nat.le_of_ble_eq_true rfl)
  rw [lg_entry_eq]
  generalize (lg_sl ([.ref mo, .int x, .int i]) ++ List.replicate (5 - (lg_sl ([.ref mo, .int x, .int i])).length) Slot.unset).toArray = ls at hl ⊢
  have hl : lv_has ls 5 [(0, .ref mo), (1, .int x), (2, .int i)] := hl
  refine lv_aload_n hx hb dX6_told_0 rfl (lv_at hl 0 rfl) ?_
  refine lv_iload_n hx hb dX6_told_1 rfl (lv_at hl 1 rfl) ?_
  have hPc := hP.sub (ws' := [(mo, .inr (6, [.ref mw, .int (nI cnt), .ref mk, .ref mp, .ref mz, .ref me, .ref mtb, .ref my, .ref mx, .ref mu, .ref mn, .ref mg, .int hf, .int fro, .ref mf, .int (nI fsz), .ref mi, .int (nI isz), .int z, .ref mh, .ref mv, .int (nI rk), .long lf, .long lo, .ref ms]))]) [0] rfl
  refine kq_csi (va_runV (As := [.int x]) (rest := []) ⟨hx, hb, hml, hown, hts⟩ (c_M_isSource l dC dI cA mo mw mk mp mz me mtb my mx mu mn mg mf mi mh mv ms cnt hf fro fsz isz z rk lf lo x) (cwV 1 hts (kg_V tb_315 tb_316 tb_317 tb_318 tb_314) rfl rfl rfl (by decide +kernel) ⟨Nat.le_of_ble_eq_true rfl, Nat.le_of_ble_eq_true rfl⟩) (kpv_ro hK hN hPc (ci := 6) (q0 := 0) rfl rfl rfl) rfl rfl hl.1 rfl (lv_room (Nat.le_of_ble_eq_true rfl)) dX6_told_2 ⟨Nat.le_of_ble_eq_true rfl, Nat.le_of_ble_eq_true rfl⟩) (fun r_1 hr_1 => ?_)
  refine kt_i (y := sp_has cnt x) hr_1 ?_
  refine lv_if_ne (tgt := 10) hx hb dX6_told_5 (by decide) (fun c_2 => ?_) (fun c_2 => ?_)
  · have c_2 : ¬ ((sp_has cnt x) = 0) := c_2
    exact absurd hno c_2
  · have c_2 : (sp_has cnt x) = 0 := c_2
    refine lv_iconst (v := (-1)) hx hb dX6_told_8 (by decide) ?_
    exact W.iret (v := (-1)) hx hb hr (fun t9 ht9 hW9 => ⟨(-1), rfl, rfl, ht9⟩) (fun _ h => absurd h List.not_mem_nil) dX6_told_9
set_option maxHeartbeats 4000000 in
set_option maxRecDepth 100000 in
theorem c_M_taken_no (l : Launch) (dC : Nat → ClassId) (dI : Nat → Nat → Nat) (cA : Nat → ClassId) (mo : Nat) (mw : Nat) (mk : Nat) (mp : Nat) (mz : Nat) (me : Nat) (mtb : Nat) (my : Nat) (mx : Nat) (mu : Nat) (mn : Nat) (mg : Nat) (mf : Nat) (mi : Nat) (mh : Nat) (mv : Nat) (ms : Nat) (cnt : Nat) (hf : Int32) (fro : Int32) (fsz : Nat) (isz : Nat) (z : Int32) (rk : Nat) (lf : Int64) (lo : Int64) (x : Int32) (i : Int32) (hno : sp_has cnt x = 0) : Met l yX6_taken (kw_X6_taken) ({ frames := 1, cells := 0, slots := 0, locals := 21 }) (va_Pc [.ref mo, .int x, .int i] (fun U => kRO dC dI cA [(mo, .inr (6, [.ref mw, .int (nI cnt), .ref mk, .ref mp, .ref mz, .ref me, .ref mtb, .ref my, .ref mx, .ref mu, .ref mn, .ref mg, .int hf, .int fro, .ref mf, .int (nI fsz), .ref mi, .int (nI isz), .int z, .ref mh, .ref mv, .int (nI rk), .long lf, .long lo, .ref ms]))] U)) (vp_Si (fun r => r = (-1))) 0 0 (fun _ => False) := by
  refine Met.ofW (cc := cX6_taken) (maxL := 3) (ret := (some .int)) (by decide) rfl ?_
  intro p e s m args below meth c s₁ B hml hv
  obtain ⟨rfl, hP, hK, hN⟩ := hv
  have hx := B.exec
  have hb := B.bytes
  have hr := B.returns
  have hts0 := atoms_spec (ws := (kw_X6_taken)) B.pre
  have hts : ∀ w ∈ TB, w.before _ s = true := fun w h => hts0 w (List.mem_cons_of_mem _ h)
  have hown : s.vm.findClass RX6 = some m.cls := findClass_of_methodNamed B.named
  have hlocks := B.notSynchronized
  have hl := lv_entry ([.ref mo, .int x, .int i]) (n := 3) (Nat.le_of_ble_eq_true rfl)
  rw [lg_entry_eq]
  generalize (lg_sl ([.ref mo, .int x, .int i]) ++ List.replicate (3 - (lg_sl ([.ref mo, .int x, .int i])).length) Slot.unset).toArray = ls at hl ⊢
  have hl : lv_has ls 3 [(0, .ref mo), (1, .int x), (2, .int i)] := hl
  refine lv_aload_n hx hb dX6_taken_0 rfl (lv_at hl 0 rfl) ?_
  refine lv_iload_n hx hb dX6_taken_1 rfl (lv_at hl 1 rfl) ?_
  have hPc := hP.sub (ws' := [(mo, .inr (6, [.ref mw, .int (nI cnt), .ref mk, .ref mp, .ref mz, .ref me, .ref mtb, .ref my, .ref mx, .ref mu, .ref mn, .ref mg, .int hf, .int fro, .ref mf, .int (nI fsz), .ref mi, .int (nI isz), .int z, .ref mh, .ref mv, .int (nI rk), .long lf, .long lo, .ref ms]))]) [0] rfl
  refine kq_csi (va_runV (As := [.int x]) (rest := []) ⟨hx, hb, hml, hown, hts⟩ (c_M_isSource l dC dI cA mo mw mk mp mz me mtb my mx mu mn mg mf mi mh mv ms cnt hf fro fsz isz z rk lf lo x) (cwV 1 hts (kg_V tb_315 tb_316 tb_317 tb_318 tb_314) rfl rfl rfl (by decide +kernel) ⟨Nat.le_of_ble_eq_true rfl, Nat.le_of_ble_eq_true rfl⟩) (kpv_ro hK hN hPc (ci := 6) (q0 := 0) rfl rfl rfl) rfl rfl hl.1 rfl (lv_room (Nat.le_of_ble_eq_true rfl)) dX6_taken_2 ⟨Nat.le_of_ble_eq_true rfl, Nat.le_of_ble_eq_true rfl⟩) (fun r_1 hr_1 => ?_)
  refine kt_i (y := sp_has cnt x) hr_1 ?_
  refine lv_if_eq (tgt := 22) hx hb dX6_taken_5 (by decide) (fun c_2 => ?_) (fun c_2 => ?_)
  · have c_2 : (sp_has cnt x) = 0 := c_2
    refine lv_iconst (v := (-1)) hx hb dX6_taken_22 (by decide) ?_
    refine lv_goto (tgt := 37) hx hb dX6_taken_23 (by decide) ?_
    exact W.iret (v := (-1)) hx hb hr (fun t9 ht9 hW9 => ⟨(-1), rfl, rfl, ht9⟩) (fun _ h => absurd h List.not_mem_nil) dX6_taken_37
  · have c_2 : ¬ ((sp_has cnt x) = 0) := c_2
    exact absurd hno c_2
set_option maxHeartbeats 4000000 in
set_option maxRecDepth 100000 in
theorem c_M_image_no (l : Launch) (dC : Nat → ClassId) (dI : Nat → Nat → Nat) (cA : Nat → ClassId) (mo : Nat) (mw : Nat) (mk : Nat) (mp : Nat) (mz : Nat) (me : Nat) (mtb : Nat) (my : Nat) (mx : Nat) (mu : Nat) (mn : Nat) (mg : Nat) (mf : Nat) (mi : Nat) (mh : Nat) (mv : Nat) (ms : Nat) (cnt : Nat) (hf : Int32) (fro : Int32) (fsz : Nat) (isz : Nat) (z : Int32) (rk : Nat) (lf : Int64) (lo : Int64) (x : Int32) (hno : sp_has cnt x = 0) : Met l yX6_image (kw_X6_image) ({ frames := 1, cells := 0, slots := 0, locals := 21 }) (va_Pc [.ref mo, .int x] (fun U => kRO dC dI cA [(mo, .inr (6, [.ref mw, .int (nI cnt), .ref mk, .ref mp, .ref mz, .ref me, .ref mtb, .ref my, .ref mx, .ref mu, .ref mn, .ref mg, .int hf, .int fro, .ref mf, .int (nI fsz), .ref mi, .int (nI isz), .int z, .ref mh, .ref mv, .int (nI rk), .long lf, .long lo, .ref ms]))] U)) (vp_Si (fun r => r = (-1))) 0 0 (fun _ => False) := by
  refine Met.ofW (cc := cX6_image) (maxL := 3) (ret := (some .int)) (by decide) rfl ?_
  intro p e s m args below meth c s₁ B hml hv
  obtain ⟨rfl, hP, hK, hN⟩ := hv
  have hx := B.exec
  have hb := B.bytes
  have hr := B.returns
  have hts0 := atoms_spec (ws := (kw_X6_image)) B.pre
  have hts : ∀ w ∈ TB, w.before _ s = true := fun w h => hts0 w (List.mem_cons_of_mem _ h)
  have hown : s.vm.findClass RX6 = some m.cls := findClass_of_methodNamed B.named
  have hlocks := B.notSynchronized
  have hl := lv_entry ([.ref mo, .int x]) (n := 3) (Nat.le_of_ble_eq_true rfl)
  rw [lg_entry_eq]
  generalize (lg_sl ([.ref mo, .int x]) ++ List.replicate (3 - (lg_sl ([.ref mo, .int x])).length) Slot.unset).toArray = ls at hl ⊢
  have hl : lv_has ls 3 [(0, .ref mo), (1, .int x)] := hl
  refine lv_aload_n hx hb dX6_image_0 rfl (lv_at hl 0 rfl) ?_
  refine lv_iload_n hx hb dX6_image_1 rfl (lv_at hl 1 rfl) ?_
  have hPc := hP.sub (ws' := [(mo, .inr (6, [.ref mw, .int (nI cnt), .ref mk, .ref mp, .ref mz, .ref me, .ref mtb, .ref my, .ref mx, .ref mu, .ref mn, .ref mg, .int hf, .int fro, .ref mf, .int (nI fsz), .ref mi, .int (nI isz), .int z, .ref mh, .ref mv, .int (nI rk), .long lf, .long lo, .ref ms]))]) [0] rfl
  refine kq_csi (va_runV (As := [.int x]) (rest := []) ⟨hx, hb, hml, hown, hts⟩ (c_M_isSource l dC dI cA mo mw mk mp mz me mtb my mx mu mn mg mf mi mh mv ms cnt hf fro fsz isz z rk lf lo x) (cwV 1 hts (kg_V tb_315 tb_316 tb_317 tb_318 tb_314) rfl rfl rfl (by decide +kernel) ⟨Nat.le_of_ble_eq_true rfl, Nat.le_of_ble_eq_true rfl⟩) (kpv_ro hK hN hPc (ci := 6) (q0 := 0) rfl rfl rfl) rfl rfl hl.1 rfl (lv_room (Nat.le_of_ble_eq_true rfl)) dX6_image_2 ⟨Nat.le_of_ble_eq_true rfl, Nat.le_of_ble_eq_true rfl⟩) (fun r_1 hr_1 => ?_)
  refine kt_i (y := sp_has cnt x) hr_1 ?_
  refine lv_if_ne (tgt := 10) hx hb dX6_image_5 (by decide) (fun c_2 => ?_) (fun c_2 => ?_)
  · have c_2 : ¬ ((sp_has cnt x) = 0) := c_2
    exact absurd hno c_2
  · have c_2 : (sp_has cnt x) = 0 := c_2
    refine lv_iconst (v := (-1)) hx hb dX6_image_8 (by decide) ?_
    exact W.iret (v := (-1)) hx hb hr (fun t9 ht9 hW9 => ⟨(-1), rfl, rfl, ht9⟩) (fun _ h => absurd h List.not_mem_nil) dX6_image_9
set_option maxHeartbeats 4000000 in
set_option maxRecDepth 100000 in
theorem c_M_resume_no (l : Launch) (dC : Nat → ClassId) (dI : Nat → Nat → Nat) (cA : Nat → ClassId) (mo : Nat) (mw : Nat) (mk : Nat) (mp : Nat) (mz : Nat) (me : Nat) (mtb : Nat) (my : Nat) (mx : Nat) (mu : Nat) (mn : Nat) (mg : Nat) (mf : Nat) (mi : Nat) (mh : Nat) (mv : Nat) (ms : Nat) (cnt : Nat) (hf : Int32) (fro : Int32) (fsz : Nat) (isz : Nat) (z : Int32) (rk : Nat) (lf : Int64) (lo : Int64) (x : Int32) (hno : sp_has cnt x = 0) : Met l yX6_resume (kw_X6_resume) ({ frames := 1, cells := 0, slots := 0, locals := 21 }) (va_Pc [.ref mo, .int x] (fun U => kRO dC dI cA [(mo, .inr (6, [.ref mw, .int (nI cnt), .ref mk, .ref mp, .ref mz, .ref me, .ref mtb, .ref my, .ref mx, .ref mu, .ref mn, .ref mg, .int hf, .int fro, .ref mf, .int (nI fsz), .ref mi, .int (nI isz), .int z, .ref mh, .ref mv, .int (nI rk), .long lf, .long lo, .ref ms]))] U)) (vp_Si (fun r => r = (-1))) 0 0 (fun _ => False) := by
  refine Met.ofW (cc := cX6_resume) (maxL := 8) (ret := (some .int)) (by decide) rfl ?_
  intro p e s m args below meth c s₁ B hml hv
  obtain ⟨rfl, hP, hK, hN⟩ := hv
  have hx := B.exec
  have hb := B.bytes
  have hr := B.returns
  have hts0 := atoms_spec (ws := (kw_X6_resume)) B.pre
  have hts : ∀ w ∈ TB, w.before _ s = true := fun w h => hts0 w (List.mem_cons_of_mem _ h)
  have hown : s.vm.findClass RX6 = some m.cls := findClass_of_methodNamed B.named
  have hlocks := B.notSynchronized
  have hl := lv_entry ([.ref mo, .int x]) (n := 8) (Nat.le_of_ble_eq_true rfl)
  rw [lg_entry_eq]
  generalize (lg_sl ([.ref mo, .int x]) ++ List.replicate (8 - (lg_sl ([.ref mo, .int x])).length) Slot.unset).toArray = ls at hl ⊢
  have hl : lv_has ls 8 [(0, .ref mo), (1, .int x)] := hl
  refine lv_aload_n hx hb dX6_resume_0 rfl (lv_at hl 0 rfl) ?_
  refine lv_iload_n hx hb dX6_resume_1 rfl (lv_at hl 1 rfl) ?_
  have hPc := hP.sub (ws' := [(mo, .inr (6, [.ref mw, .int (nI cnt), .ref mk, .ref mp, .ref mz, .ref me, .ref mtb, .ref my, .ref mx, .ref mu, .ref mn, .ref mg, .int hf, .int fro, .ref mf, .int (nI fsz), .ref mi, .int (nI isz), .int z, .ref mh, .ref mv, .int (nI rk), .long lf, .long lo, .ref ms]))]) [0] rfl
  refine kq_csi (va_runV (As := [.int x]) (rest := []) ⟨hx, hb, hml, hown, hts⟩ (c_M_isSource l dC dI cA mo mw mk mp mz me mtb my mx mu mn mg mf mi mh mv ms cnt hf fro fsz isz z rk lf lo x) (cwV 1 hts (kg_V tb_315 tb_316 tb_317 tb_318 tb_314) rfl rfl rfl (by decide +kernel) ⟨Nat.le_of_ble_eq_true rfl, Nat.le_of_ble_eq_true rfl⟩) (kpv_ro hK hN hPc (ci := 6) (q0 := 0) rfl rfl rfl) rfl rfl hl.1 rfl (lv_room (Nat.le_of_ble_eq_true rfl)) dX6_resume_2 ⟨Nat.le_of_ble_eq_true rfl, Nat.le_of_ble_eq_true rfl⟩) (fun r_1 hr_1 => ?_)
  refine kt_i (y := sp_has cnt x) hr_1 ?_
  refine lv_if_ne (tgt := 10) hx hb dX6_resume_5 (by decide) (fun c_2 => ?_) (fun c_2 => ?_)
  · have c_2 : ¬ ((sp_has cnt x) = 0) := c_2
    exact absurd hno c_2
  · have c_2 : (sp_has cnt x) = 0 := c_2
    refine lv_iconst (v := (-1)) hx hb dX6_resume_8 (by decide) ?_
    exact W.iret (v := (-1)) hx hb hr (fun t9 ht9 hW9 => ⟨(-1), rfl, rfl, ht9⟩) (fun _ h => absurd h List.not_mem_nil) dX6_resume_9
set_option maxHeartbeats 4000000 in
set_option maxRecDepth 100000 in
theorem c_M_part_no (l : Launch) (dC : Nat → ClassId) (dI : Nat → Nat → Nat) (cA : Nat → ClassId) (mo : Nat) (mw : Nat) (mk : Nat) (mp : Nat) (mz : Nat) (me : Nat) (mtb : Nat) (my : Nat) (mx : Nat) (mu : Nat) (mn : Nat) (mg : Nat) (mf : Nat) (mi : Nat) (mh : Nat) (mv : Nat) (ms : Nat) (cnt : Nat) (hf : Int32) (fro : Int32) (fsz : Nat) (isz : Nat) (z : Int32) (rk : Nat) (lf : Int64) (lo : Int64) (x : Int32) (i : Int32) (hno : sp_has cnt x = 0) : Met l yX6_part (kw_X6_part) ({ frames := 2, cells := 0, slots := 0, locals := 43 }) (va_Pc [.ref mo, .int x, .int i] (fun U => kRO dC dI cA [(mo, .inr (6, [.ref mw, .int (nI cnt), .ref mk, .ref mp, .ref mz, .ref me, .ref mtb, .ref my, .ref mx, .ref mu, .ref mn, .ref mg, .int hf, .int fro, .ref mf, .int (nI fsz), .ref mi, .int (nI isz), .int z, .ref mh, .ref mv, .int (nI rk), .long lf, .long lo, .ref ms]))] U)) (vp_Sl (fun r => r = 0)) 0 0 (fun _ => False) := by
  refine Met.ofW (cc := cX6_part) (maxL := 3) (ret := (some .long)) (by decide) rfl ?_
  intro p e s m args below meth c s₁ B hml hv
  obtain ⟨rfl, hP, hK, hN⟩ := hv
  have hx := B.exec
  have hb := B.bytes
  have hr := B.returns
  have hts0 := atoms_spec (ws := (kw_X6_part)) B.pre
  have hts : ∀ w ∈ TB, w.before _ s = true := fun w h => hts0 w (List.mem_cons_of_mem _ h)
  have hown : s.vm.findClass RX6 = some m.cls := findClass_of_methodNamed B.named
  have hlocks := B.notSynchronized
  have hl := lv_entry ([.ref mo, .int x, .int i]) (n := 3) (Nat.le_of_ble_eq_true rfl)
  rw [lg_entry_eq]
  generalize (lg_sl ([.ref mo, .int x, .int i]) ++ List.replicate (3 - (lg_sl ([.ref mo, .int x, .int i])).length) Slot.unset).toArray = ls at hl ⊢
  have hl : lv_has ls 3 [(0, .ref mo), (1, .int x), (2, .int i)] := hl
  refine lv_aload_n hx hb dX6_part_0 rfl (lv_at hl 0 rfl) ?_
  refine lv_iload_n hx hb dX6_part_1 rfl (lv_at hl 1 rfl) ?_
  refine lv_iload_n hx hb dX6_part_2 rfl (lv_at hl 2 rfl) ?_
  have hPc := hP.sub (ws' := [(mo, .inr (6, [.ref mw, .int (nI cnt), .ref mk, .ref mp, .ref mz, .ref me, .ref mtb, .ref my, .ref mx, .ref mu, .ref mn, .ref mg, .int hf, .int fro, .ref mf, .int (nI fsz), .ref mi, .int (nI isz), .int z, .ref mh, .ref mv, .int (nI rk), .long lf, .long lo, .ref ms]))]) [0] rfl
  refine kq_csi (va_runV (As := [.int x, .int i]) (rest := []) ⟨hx, hb, hml, hown, hts⟩ (c_M_isPart_no l dC dI cA mo mw mk mp mz me mtb my mx mu mn mg mf mi mh mv ms cnt hf fro fsz isz z rk lf lo x i (by first | assumption | omega)) (cwV 2 hts (kg_V tb_321 tb_322 tb_323 tb_318 tb_320) rfl rfl rfl (by decide +kernel) ⟨Nat.le_of_ble_eq_true rfl, Nat.le_of_ble_eq_true rfl⟩) (kpv_ro hK hN hPc (ci := 6) (q0 := 0) rfl rfl rfl) rfl rfl hl.1 rfl (lv_room (Nat.le_of_ble_eq_true rfl)) dX6_part_3 ⟨Nat.le_of_ble_eq_true rfl, Nat.le_of_ble_eq_true rfl⟩) (fun r_1 hr_1 => ?_)
  refine kt_i (y := 0) hr_1 ?_
  refine lv_if_eq (tgt := 18) hx hb dX6_part_6 (by decide) (fun c_2 => ?_) (fun c_2 => ?_)
  · have c_2 : (0 : Int32) = 0 := c_2
    refine lv_lconst (v := 0) hx hb dX6_part_18 (by decide) ?_
    exact W.lret (v := 0) hx hb hr (fun t9 ht9 hW9 => ⟨0, rfl, rfl, ht9⟩) (fun _ h => absurd h List.not_mem_nil) dX6_part_19
  · have c_2 : ¬ ((0 : Int32) = 0) := c_2
    exact absurd c_2 (by decide)
set_option maxHeartbeats 4000000 in
set_option maxRecDepth 100000 in
theorem c_M_known_no (l : Launch) (dC : Nat → ClassId) (dI : Nat → Nat → Nat) (cA : Nat → ClassId) (mo : Nat) (mw : Nat) (mk : Nat) (mp : Nat) (mz : Nat) (me : Nat) (mtb : Nat) (my : Nat) (mx : Nat) (mu : Nat) (mn : Nat) (mg : Nat) (mf : Nat) (mi : Nat) (mh : Nat) (mv : Nat) (ms : Nat) (cnt : Nat) (hf : Int32) (fro : Int32) (fsz : Nat) (isz : Nat) (z : Int32) (rk : Nat) (lf : Int64) (lo : Int64) (x : Int32) (i : Int32) (hno : sp_has cnt x = 0) : Met l yX6_known (kw_X6_known) ({ frames := 2, cells := 0, slots := 0, locals := 43 }) (va_Pc [.ref mo, .int x, .int i] (fun U => kRO dC dI cA [(mo, .inr (6, [.ref mw, .int (nI cnt), .ref mk, .ref mp, .ref mz, .ref me, .ref mtb, .ref my, .ref mx, .ref mu, .ref mn, .ref mg, .int hf, .int fro, .ref mf, .int (nI fsz), .ref mi, .int (nI isz), .int z, .ref mh, .ref mv, .int (nI rk), .long lf, .long lo, .ref ms]))] U)) (vp_Sl (fun r => r = 0)) 0 0 (fun _ => False) := by
  refine Met.ofW (cc := cX6_known) (maxL := 3) (ret := (some .long)) (by decide) rfl ?_
  intro p e s m args below meth c s₁ B hml hv
  obtain ⟨rfl, hP, hK, hN⟩ := hv
  have hx := B.exec
  have hb := B.bytes
  have hr := B.returns
  have hts0 := atoms_spec (ws := (kw_X6_known)) B.pre
  have hts : ∀ w ∈ TB, w.before _ s = true := fun w h => hts0 w (List.mem_cons_of_mem _ h)
  have hown : s.vm.findClass RX6 = some m.cls := findClass_of_methodNamed B.named
  have hlocks := B.notSynchronized
  have hl := lv_entry ([.ref mo, .int x, .int i]) (n := 3) (Nat.le_of_ble_eq_true rfl)
  rw [lg_entry_eq]
  generalize (lg_sl ([.ref mo, .int x, .int i]) ++ List.replicate (3 - (lg_sl ([.ref mo, .int x, .int i])).length) Slot.unset).toArray = ls at hl ⊢
  have hl : lv_has ls 3 [(0, .ref mo), (1, .int x), (2, .int i)] := hl
  refine lv_aload_n hx hb dX6_known_0 rfl (lv_at hl 0 rfl) ?_
  refine lv_iload_n hx hb dX6_known_1 rfl (lv_at hl 1 rfl) ?_
  refine lv_iload_n hx hb dX6_known_2 rfl (lv_at hl 2 rfl) ?_
  have hPc := hP.sub (ws' := [(mo, .inr (6, [.ref mw, .int (nI cnt), .ref mk, .ref mp, .ref mz, .ref me, .ref mtb, .ref my, .ref mx, .ref mu, .ref mn, .ref mg, .int hf, .int fro, .ref mf, .int (nI fsz), .ref mi, .int (nI isz), .int z, .ref mh, .ref mv, .int (nI rk), .long lf, .long lo, .ref ms]))]) [0] rfl
  refine kq_csi (va_runV (As := [.int x, .int i]) (rest := []) ⟨hx, hb, hml, hown, hts⟩ (c_M_isPart_no l dC dI cA mo mw mk mp mz me mtb my mx mu mn mg mf mi mh mv ms cnt hf fro fsz isz z rk lf lo x i (by first | assumption | omega)) (cwV 2 hts (kg_V tb_321 tb_322 tb_323 tb_318 tb_320) rfl rfl rfl (by decide +kernel) ⟨Nat.le_of_ble_eq_true rfl, Nat.le_of_ble_eq_true rfl⟩) (kpv_ro hK hN hPc (ci := 6) (q0 := 0) rfl rfl rfl) rfl rfl hl.1 rfl (lv_room (Nat.le_of_ble_eq_true rfl)) dX6_known_3 ⟨Nat.le_of_ble_eq_true rfl, Nat.le_of_ble_eq_true rfl⟩) (fun r_1 hr_1 => ?_)
  refine kt_i (y := 0) hr_1 ?_
  refine lv_if_ne (tgt := 11) hx hb dX6_known_6 (by decide) (fun c_2 => ?_) (fun c_2 => ?_)
  · have c_2 : ¬ ((0 : Int32) = 0) := c_2
    exact absurd c_2 (by decide)
  · have c_2 : (0 : Int32) = 0 := c_2
    refine lv_lconst (v := 0) hx hb dX6_known_9 (by decide) ?_
    exact W.lret (v := 0) hx hb hr (fun t9 ht9 hW9 => ⟨0, rfl, rfl, ht9⟩) (fun _ h => absurd h List.not_mem_nil) dX6_known_10
set_option maxHeartbeats 4000000 in
set_option maxRecDepth 100000 in
theorem c_M_isKnown_no (l : Launch) (dC : Nat → ClassId) (dI : Nat → Nat → Nat) (cA : Nat → ClassId) (mo : Nat) (mw : Nat) (mk : Nat) (mp : Nat) (mz : Nat) (me : Nat) (mtb : Nat) (my : Nat) (mx : Nat) (mu : Nat) (mn : Nat) (mg : Nat) (mf : Nat) (mi : Nat) (mh : Nat) (mv : Nat) (ms : Nat) (cnt : Nat) (hf : Int32) (fro : Int32) (fsz : Nat) (isz : Nat) (z : Int32) (rk : Nat) (lf : Int64) (lo : Int64) (x : Int32) (i : Int32) (hno : sp_has cnt x = 0) : Met l yX6_isKnown (kw_X6_isKnown) ({ frames := 2, cells := 0, slots := 0, locals := 43 }) (va_Pc [.ref mo, .int x, .int i] (fun U => kRO dC dI cA [(mo, .inr (6, [.ref mw, .int (nI cnt), .ref mk, .ref mp, .ref mz, .ref me, .ref mtb, .ref my, .ref mx, .ref mu, .ref mn, .ref mg, .int hf, .int fro, .ref mf, .int (nI fsz), .ref mi, .int (nI isz), .int z, .ref mh, .ref mv, .int (nI rk), .long lf, .long lo, .ref ms]))] U)) (vp_Si (fun r => r = (-1))) 0 0 (fun _ => False) := by
  refine Met.ofW (cc := cX6_isKnown) (maxL := 3) (ret := (some .int)) (by decide) rfl ?_
  intro p e s m args below meth c s₁ B hml hv
  obtain ⟨rfl, hP, hK, hN⟩ := hv
  have hx := B.exec
  have hb := B.bytes
  have hr := B.returns
  have hts0 := atoms_spec (ws := (kw_X6_isKnown)) B.pre
  have hts : ∀ w ∈ TB, w.before _ s = true := fun w h => hts0 w (List.mem_cons_of_mem _ h)
  have hown : s.vm.findClass RX6 = some m.cls := findClass_of_methodNamed B.named
  have hlocks := B.notSynchronized
  have hl := lv_entry ([.ref mo, .int x, .int i]) (n := 3) (Nat.le_of_ble_eq_true rfl)
  rw [lg_entry_eq]
  generalize (lg_sl ([.ref mo, .int x, .int i]) ++ List.replicate (3 - (lg_sl ([.ref mo, .int x, .int i])).length) Slot.unset).toArray = ls at hl ⊢
  have hl : lv_has ls 3 [(0, .ref mo), (1, .int x), (2, .int i)] := hl
  refine lv_aload_n hx hb dX6_isKnown_0 rfl (lv_at hl 0 rfl) ?_
  refine lv_iload_n hx hb dX6_isKnown_1 rfl (lv_at hl 1 rfl) ?_
  refine lv_iload_n hx hb dX6_isKnown_2 rfl (lv_at hl 2 rfl) ?_
  have hPc := hP.sub (ws' := [(mo, .inr (6, [.ref mw, .int (nI cnt), .ref mk, .ref mp, .ref mz, .ref me, .ref mtb, .ref my, .ref mx, .ref mu, .ref mn, .ref mg, .int hf, .int fro, .ref mf, .int (nI fsz), .ref mi, .int (nI isz), .int z, .ref mh, .ref mv, .int (nI rk), .long lf, .long lo, .ref ms]))]) [0] rfl
  refine kq_csi (va_runV (As := [.int x, .int i]) (rest := []) ⟨hx, hb, hml, hown, hts⟩ (c_M_isPart_no l dC dI cA mo mw mk mp mz me mtb my mx mu mn mg mf mi mh mv ms cnt hf fro fsz isz z rk lf lo x i (by first | assumption | omega)) (cwV 2 hts (kg_V tb_321 tb_322 tb_323 tb_318 tb_320) rfl rfl rfl (by decide +kernel) ⟨Nat.le_of_ble_eq_true rfl, Nat.le_of_ble_eq_true rfl⟩) (kpv_ro hK hN hPc (ci := 6) (q0 := 0) rfl rfl rfl) rfl rfl hl.1 rfl (lv_room (Nat.le_of_ble_eq_true rfl)) dX6_isKnown_3 ⟨Nat.le_of_ble_eq_true rfl, Nat.le_of_ble_eq_true rfl⟩) (fun r_1 hr_1 => ?_)
  refine kt_i (y := 0) hr_1 ?_
  refine lv_if_ne (tgt := 11) hx hb dX6_isKnown_6 (by decide) (fun c_2 => ?_) (fun c_2 => ?_)
  · have c_2 : ¬ ((0 : Int32) = 0) := c_2
    exact absurd c_2 (by decide)
  · have c_2 : (0 : Int32) = 0 := c_2
    refine lv_iconst (v := (-1)) hx hb dX6_isKnown_9 (by decide) ?_
    exact W.iret (v := (-1)) hx hb hr (fun t9 ht9 hW9 => ⟨(-1), rfl, rfl, ht9⟩) (fun _ h => absurd h List.not_mem_nil) dX6_isKnown_10
set_option maxHeartbeats 4000000 in
set_option maxRecDepth 100000 in
theorem c_M_peeled_no (l : Launch) (dC : Nat → ClassId) (dI : Nat → Nat → Nat) (cA : Nat → ClassId) (mo : Nat) (mw : Nat) (mk : Nat) (mp : Nat) (mz : Nat) (me : Nat) (mtb : Nat) (my : Nat) (mx : Nat) (mu : Nat) (mn : Nat) (mg : Nat) (mf : Nat) (mi : Nat) (mh : Nat) (mv : Nat) (ms : Nat) (cnt : Nat) (hf : Int32) (fro : Int32) (fsz : Nat) (isz : Nat) (z : Int32) (rk : Nat) (lf : Int64) (lo : Int64) (x : Int32) (i : Int32) (hno : sp_has cnt x = 0) : Met l yX6_peeled (kw_X6_peeled) ({ frames := 2, cells := 0, slots := 0, locals := 43 }) (va_Pc [.ref mo, .int x, .int i] (fun U => kRO dC dI cA [(mo, .inr (6, [.ref mw, .int (nI cnt), .ref mk, .ref mp, .ref mz, .ref me, .ref mtb, .ref my, .ref mx, .ref mu, .ref mn, .ref mg, .int hf, .int fro, .ref mf, .int (nI fsz), .ref mi, .int (nI isz), .int z, .ref mh, .ref mv, .int (nI rk), .long lf, .long lo, .ref ms]))] U)) (vp_Si (fun r => r = (-1))) 0 0 (fun _ => False) := by
  refine Met.ofW (cc := cX6_peeled) (maxL := 3) (ret := (some .int)) (by decide) rfl ?_
  intro p e s m args below meth c s₁ B hml hv
  obtain ⟨rfl, hP, hK, hN⟩ := hv
  have hx := B.exec
  have hb := B.bytes
  have hr := B.returns
  have hts0 := atoms_spec (ws := (kw_X6_peeled)) B.pre
  have hts : ∀ w ∈ TB, w.before _ s = true := fun w h => hts0 w (List.mem_cons_of_mem _ h)
  have hown : s.vm.findClass RX6 = some m.cls := findClass_of_methodNamed B.named
  have hlocks := B.notSynchronized
  have hl := lv_entry ([.ref mo, .int x, .int i]) (n := 3) (Nat.le_of_ble_eq_true rfl)
  rw [lg_entry_eq]
  generalize (lg_sl ([.ref mo, .int x, .int i]) ++ List.replicate (3 - (lg_sl ([.ref mo, .int x, .int i])).length) Slot.unset).toArray = ls at hl ⊢
  have hl : lv_has ls 3 [(0, .ref mo), (1, .int x), (2, .int i)] := hl
  refine lv_aload_n hx hb dX6_peeled_0 rfl (lv_at hl 0 rfl) ?_
  refine lv_iload_n hx hb dX6_peeled_1 rfl (lv_at hl 1 rfl) ?_
  refine lv_iload_n hx hb dX6_peeled_2 rfl (lv_at hl 2 rfl) ?_
  have hPc := hP.sub (ws' := [(mo, .inr (6, [.ref mw, .int (nI cnt), .ref mk, .ref mp, .ref mz, .ref me, .ref mtb, .ref my, .ref mx, .ref mu, .ref mn, .ref mg, .int hf, .int fro, .ref mf, .int (nI fsz), .ref mi, .int (nI isz), .int z, .ref mh, .ref mv, .int (nI rk), .long lf, .long lo, .ref ms]))]) [0] rfl
  refine kq_csi (va_runV (As := [.int x, .int i]) (rest := []) ⟨hx, hb, hml, hown, hts⟩ (c_M_isPart_no l dC dI cA mo mw mk mp mz me mtb my mx mu mn mg mf mi mh mv ms cnt hf fro fsz isz z rk lf lo x i (by first | assumption | omega)) (cwV 2 hts (kg_V tb_321 tb_322 tb_323 tb_318 tb_320) rfl rfl rfl (by decide +kernel) ⟨Nat.le_of_ble_eq_true rfl, Nat.le_of_ble_eq_true rfl⟩) (kpv_ro hK hN hPc (ci := 6) (q0 := 0) rfl rfl rfl) rfl rfl hl.1 rfl (lv_room (Nat.le_of_ble_eq_true rfl)) dX6_peeled_3 ⟨Nat.le_of_ble_eq_true rfl, Nat.le_of_ble_eq_true rfl⟩) (fun r_1 hr_1 => ?_)
  refine kt_i (y := 0) hr_1 ?_
  refine lv_if_ne (tgt := 11) hx hb dX6_peeled_6 (by decide) (fun c_2 => ?_) (fun c_2 => ?_)
  · have c_2 : ¬ ((0 : Int32) = 0) := c_2
    exact absurd c_2 (by decide)
  · have c_2 : (0 : Int32) = 0 := c_2
    refine lv_iconst (v := (-1)) hx hb dX6_peeled_9 (by decide) ?_
    exact W.iret (v := (-1)) hx hb hr (fun t9 ht9 hW9 => ⟨(-1), rfl, rfl, ht9⟩) (fun _ h => absurd h List.not_mem_nil) dX6_peeled_10
set_option maxHeartbeats 4000000 in
set_option maxRecDepth 100000 in
theorem c_M_isPart_at (l : Launch) (dC : Nat → ClassId) (dI : Nat → Nat → Nat) (cA : Nat → ClassId) (mo : Nat) (mw : Nat) (mk : Nat) (mp : Nat) (mz : Nat) (me : Nat) (mtb : Nat) (my : Nat) (mx : Nat) (mu : Nat) (mn : Nat) (mg : Nat) (mf : Nat) (mi : Nat) (mh : Nat) (mv : Nat) (ms : Nat) (cnt : Nat) (hf : Int32) (fro : Int32) (fsz : Nat) (isz : Nat) (z : Int32) (rk : Nat) (lf : Int64) (lo : Int64) (kf : Nat → Int32) (pf : Nat → Int32) (j : Nat) (K : Nat) (P : Nat) (i : Int32) (hj4 : j < 4) (hkf : kf j = nI K) (hpf : pf j = nI P) (hjc : j < cnt) (hc4 : cnt ≤ 4) (hK32 : K ≤ 32) (hP8 : P ≤ 8) : Met l yX6_isPart (kw_X6_isPart) ({ frames := 1, cells := 0, slots := 0, locals := 21 }) (va_Pc [.ref mo, .int (nI j), .int i] (fun U => kRO dC dI cA [(mo, .inr (6, [.ref mw, .int (nI cnt), .ref mk, .ref mp, .ref mz, .ref me, .ref mtb, .ref my, .ref mx, .ref mu, .ref mn, .ref mg, .int hf, .int fro, .ref mf, .int (nI fsz), .ref mi, .int (nI isz), .int z, .ref mh, .ref mv, .int (nI rk), .long lf, .long lo, .ref ms])), (mk, .inl (cA 0, 4, .inl kf)), (mp, .inl (cA 0, 4, .inl pf))] U)) (vp_Si (fun r => r = sp_has (K + P) i)) 0 0 (fun _ => False) := by
  refine Met.ofW (cc := cX6_isPart) (maxL := 3) (ret := (some .boolean)) (by decide) rfl ?_
  intro p e s m args below meth c s₁ B hml hv
  obtain ⟨rfl, hP, hK, hN⟩ := hv
  have hx := B.exec
  have hb := B.bytes
  have hr := B.returns
  have hts0 := atoms_spec (ws := (kw_X6_isPart)) B.pre
  have hts : ∀ w ∈ TB, w.before _ s = true := fun w h => hts0 w (List.mem_cons_of_mem _ h)
  have hown : s.vm.findClass RX6 = some m.cls := findClass_of_methodNamed B.named
  have hlocks := B.notSynchronized
  have hl := lv_entry ([.ref mo, .int (nI j), .int i]) (n := 3) (Nat.le_of_ble_eq_true rfl)
  rw [lg_entry_eq]
  generalize (lg_sl ([.ref mo, .int (nI j), .int i]) ++ List.replicate (3 - (lg_sl ([.ref mo, .int (nI j), .int i])).length) Slot.unset).toArray = ls at hl ⊢
  have hl : lv_has ls 3 [(0, .ref mo), (1, .int (nI j)), (2, .int i)] := hl
  refine lv_aload_n hx hb dX6_isPart_0 rfl (lv_at hl 0 rfl) ?_
  refine lv_iload_n hx hb dX6_isPart_1 rfl (lv_at hl 1 rfl) ?_
  have hPc := hP.sub (ws' := [(mo, .inr (6, [.ref mw, .int (nI cnt), .ref mk, .ref mp, .ref mz, .ref me, .ref mtb, .ref my, .ref mx, .ref mu, .ref mn, .ref mg, .int hf, .int fro, .ref mf, .int (nI fsz), .ref mi, .int (nI isz), .int z, .ref mh, .ref mv, .int (nI rk), .long lf, .long lo, .ref ms]))]) [0] rfl
  refine kq_csi (va_runV (As := [.int (nI j)]) (rest := []) ⟨hx, hb, hml, hown, hts⟩ (c_M_isSource l dC dI cA mo mw mk mp mz me mtb my mx mu mn mg mf mi mh mv ms cnt hf fro fsz isz z rk lf lo (nI j)) (cwV 1 hts (kg_V tb_315 tb_316 tb_317 tb_318 tb_314) rfl rfl rfl (by decide +kernel) ⟨Nat.le_of_ble_eq_true rfl, Nat.le_of_ble_eq_true rfl⟩) (kpv_ro hK hN hPc (ci := 6) (q0 := 0) rfl rfl rfl) rfl rfl hl.1 rfl (lv_room (Nat.le_of_ble_eq_true rfl)) dX6_isPart_2 ⟨Nat.le_of_ble_eq_true rfl, Nat.le_of_ble_eq_true rfl⟩) (fun r_1 hr_1 => ?_)
  refine kt_i (y := sp_has cnt (nI j)) hr_1 ?_
  refine lv_if_eq (tgt := 25) hx hb dX6_isPart_5 (by decide) (fun c_2 => ?_) (fun c_2 => ?_)
  · have c_2 : (sp_has cnt (nI j)) = 0 := c_2
    exact absurd c_2 (sp_has_nI hjc (by omega))
  · have c_2 : ¬ ((sp_has cnt (nI j)) = 0) := c_2
    refine lv_iload_n hx hb dX6_isPart_8 rfl (lv_at hl 2 rfl) ?_
    refine lv_if_lt (tgt := 25) hx hb dX6_isPart_9 (by decide) (fun c_3 => ?_) (fun c_3 => ?_)
    · have c_3 : i < 0 := c_3
      refine lv_iconst (v := 0) hx hb dX6_isPart_25 (by decide) ?_
      exact W.zret (v := 0) hx hb hr (by decide) (fun t9 ht9 hW9 => ⟨0, rfl, (by unfold sp_has; first | rw [if_pos c_3] | rw [if_neg c_3, if_pos c_5] | rw [if_neg c_3, if_neg c_5]), ht9⟩) (fun _ h => absurd h List.not_mem_nil) dX6_isPart_26
    · have c_3 : ¬ (i < 0) := c_3
      refine lv_iload_n hx hb dX6_isPart_12 rfl (lv_at hl 2 rfl) ?_
      refine lv_aload_n hx hb dX6_isPart_13 rfl (lv_at hl 0 rfl) ?_
      refine lv_iload_n hx hb dX6_isPart_14 rfl (lv_at hl 1 rfl) ?_
      have hPc := hP.sub (ws' := [(mo, .inr (6, [.ref mw, .int (nI cnt), .ref mk, .ref mp, .ref mz, .ref me, .ref mtb, .ref my, .ref mx, .ref mu, .ref mn, .ref mg, .int hf, .int fro, .ref mf, .int (nI fsz), .ref mi, .int (nI isz), .int z, .ref mh, .ref mv, .int (nI rk), .long lf, .long lo, .ref ms])), (mk, .inl (cA 0, 4, .inl kf)), (mp, .inl (cA 0, 4, .inl pf))]) [0, 1, 2] rfl
      refine kq_csi (va_runV (As := [.int (nI j)]) (rest := [.int i]) ⟨hx, hb, hml, hown, hts⟩ (c_M_parts l dC dI cA mo mw mk mp mz me mtb my mx mu mn mg mf mi mh mv ms cnt hf fro fsz isz z rk lf lo kf pf j K P (by first | assumption | omega) (by first | assumption | omega) (by first | assumption | omega)) (cwV 1 hts (kg_V tb_325 tb_326 tb_327 tb_318 tb_324) rfl rfl rfl (by decide +kernel) ⟨Nat.le_of_ble_eq_true rfl, Nat.le_of_ble_eq_true rfl⟩) (kpv_ro hK hN hPc (ci := 6) (q0 := 0) rfl rfl rfl) rfl rfl hl.1 rfl (lv_room (Nat.le_of_ble_eq_true rfl)) dX6_isPart_15 ⟨Nat.le_of_ble_eq_true rfl, Nat.le_of_ble_eq_true rfl⟩) (fun r_4 hr_4 => ?_)
      refine kt_i (y := nI (K + P)) hr_4 ?_
      refine lv_icmp_ge (tgt := 25) hx hb dX6_isPart_18 (by decide) (fun c_5 => ?_) (fun c_5 => ?_)
      · have c_5 : (nI (K + P)) ≤ i := c_5
        refine lv_iconst (v := 0) hx hb dX6_isPart_25 (by decide) ?_
        exact W.zret (v := 0) hx hb hr (by decide) (fun t9 ht9 hW9 => ⟨0, rfl, (by unfold sp_has; first | rw [if_pos c_3] | rw [if_neg c_3, if_pos c_5] | rw [if_neg c_3, if_neg c_5]), ht9⟩) (fun _ h => absurd h List.not_mem_nil) dX6_isPart_26
      · have c_5 : ¬ ((nI (K + P)) ≤ i) := c_5
        refine lv_iconst (v := 1) hx hb dX6_isPart_21 (by decide) ?_
        refine lv_goto (tgt := 26) hx hb dX6_isPart_22 (by decide) ?_
        exact W.zret (v := 1) hx hb hr (by decide) (fun t9 ht9 hW9 => ⟨1, rfl, (by unfold sp_has; first | rw [if_pos c_3] | rw [if_neg c_3, if_pos c_5] | rw [if_neg c_3, if_neg c_5]), ht9⟩) (fun _ h => absurd h List.not_mem_nil) dX6_isPart_26
set_option maxHeartbeats 4000000 in
set_option maxRecDepth 100000 in
theorem c_M_symbol_bad (l : Launch) (dC : Nat → ClassId) (dI : Nat → Nat → Nat) (cA : Nat → ClassId) (mo : Nat) (mw : Nat) (mk : Nat) (mp : Nat) (mz : Nat) (me : Nat) (mtb : Nat) (my : Nat) (mx : Nat) (mu : Nat) (mn : Nat) (mg : Nat) (mf : Nat) (mi : Nat) (mh : Nat) (mv : Nat) (ms : Nat) (cnt : Nat) (hf : Int32) (fro : Int32) (fsz : Nat) (isz : Nat) (z : Int32) (rk : Nat) (lf : Int64) (lo : Int64) (kf : Nat → Int32) (j : Nat) (K : Nat) (i : Int32) (v : Int64) (hj4 : j < 4) (hkf : kf j = nI K) (hjc : j < cnt) (hc4 : cnt ≤ 4) (hK32 : K ≤ 32) (hbad : sp_has K i = 0) : Met l yX6_symbol (kw_X6_symbol) ({ frames := 1, cells := 0, slots := 0, locals := 21 }) (va_Pc [.ref mo, .int (nI j), .int i, .long v] (fun U => kRO dC dI cA [(mo, .inr (6, [.ref mw, .int (nI cnt), .ref mk, .ref mp, .ref mz, .ref me, .ref mtb, .ref my, .ref mx, .ref mu, .ref mn, .ref mg, .int hf, .int fro, .ref mf, .int (nI fsz), .ref mi, .int (nI isz), .int z, .ref mh, .ref mv, .int (nI rk), .long lf, .long lo, .ref ms])), (mk, .inl (cA 0, 4, .inl kf))] U)) (vp_Si (fun r => r = (-1))) 0 0 (fun _ => False) := by
  refine Met.ofW (cc := cX6_symbol) (maxL := 5) (ret := (some .int)) (by decide) rfl ?_
  intro p e s m args below meth c s₁ B hml hv
  obtain ⟨rfl, hP, hK, hN⟩ := hv
  have hx := B.exec
  have hb := B.bytes
  have hr := B.returns
  have hts0 := atoms_spec (ws := (kw_X6_symbol)) B.pre
  have hts : ∀ w ∈ TB, w.before _ s = true := fun w h => hts0 w (List.mem_cons_of_mem _ h)
  have hown : s.vm.findClass RX6 = some m.cls := findClass_of_methodNamed B.named
  have hlocks := B.notSynchronized
  have hk_0 := hts (.fieldLink RX6 13 "FountainRowsModel" "ks" "[I") tb_308
  have hl := lv_entry ([.ref mo, .int (nI j), .int i, .long v]) (n := 5) (Nat.le_of_ble_eq_true rfl)
  rw [lg_entry_eq]
  generalize (lg_sl ([.ref mo, .int (nI j), .int i, .long v]) ++ List.replicate (5 - (lg_sl ([.ref mo, .int (nI j), .int i, .long v])).length) Slot.unset).toArray = ls at hl ⊢
  have hl : lv_has ls 5 [(0, .ref mo), (1, .int (nI j)), (2, .int i), (3, .long v)] := hl
  refine lv_aload_n hx hb dX6_symbol_0 rfl (lv_at hl 0 rfl) ?_
  refine lv_iload_n hx hb dX6_symbol_1 rfl (lv_at hl 1 rfl) ?_
  have hPc := hP.sub (ws' := [(mo, .inr (6, [.ref mw, .int (nI cnt), .ref mk, .ref mp, .ref mz, .ref me, .ref mtb, .ref my, .ref mx, .ref mu, .ref mn, .ref mg, .int hf, .int fro, .ref mf, .int (nI fsz), .ref mi, .int (nI isz), .int z, .ref mh, .ref mv, .int (nI rk), .long lf, .long lo, .ref ms]))]) [0] rfl
  refine kq_csi (va_runV (As := [.int (nI j)]) (rest := []) ⟨hx, hb, hml, hown, hts⟩ (c_M_isSource l dC dI cA mo mw mk mp mz me mtb my mx mu mn mg mf mi mh mv ms cnt hf fro fsz isz z rk lf lo (nI j)) (cwV 1 hts (kg_V tb_315 tb_316 tb_317 tb_318 tb_314) rfl rfl rfl (by decide +kernel) ⟨Nat.le_of_ble_eq_true rfl, Nat.le_of_ble_eq_true rfl⟩) (kpv_ro hK hN hPc (ci := 6) (q0 := 0) rfl rfl rfl) rfl rfl hl.1 rfl (lv_room (Nat.le_of_ble_eq_true rfl)) dX6_symbol_2 ⟨Nat.le_of_ble_eq_true rfl, Nat.le_of_ble_eq_true rfl⟩) (fun r_1 hr_1 => ?_)
  refine kt_i (y := sp_has cnt (nI j)) hr_1 ?_
  refine lv_if_eq (tgt := 22) hx hb dX6_symbol_5 (by decide) (fun c_2 => ?_) (fun c_2 => ?_)
  · have c_2 : (sp_has cnt (nI j)) = 0 := c_2
    exact absurd c_2 (sp_has_nI hjc (by omega))
  · have c_2 : ¬ ((sp_has cnt (nI j)) = 0) := c_2
    refine lv_iload_n hx hb dX6_symbol_8 rfl (lv_at hl 2 rfl) ?_
    refine lv_if_lt (tgt := 22) hx hb dX6_symbol_9 (by decide) (fun c_3 => ?_) (fun c_3 => ?_)
    · have c_3 : i < 0 := c_3
      refine lv_iconst (v := (-1)) hx hb dX6_symbol_22 (by decide) ?_
      exact W.iret (v := (-1)) hx hb hr (fun t9 ht9 hW9 => ⟨(-1), rfl, rfl, ht9⟩) (fun _ h => absurd h List.not_mem_nil) dX6_symbol_23
    · have c_3 : ¬ (i < 0) := c_3
      refine lv_iload_n hx hb dX6_symbol_12 rfl (lv_at hl 2 rfl) ?_
      refine lv_aload_n hx hb dX6_symbol_13 rfl (lv_at hl 0 rfl) ?_
      refine va_get (D := (dC, dI)) (ci := 6) (v := .ref mk) (C := RX6) (T := TX6) (N := 25) hx hb hts inX6 hown hK hP 0 rfl rfl 2 (by decide) hk_0 (fun _ h9 => h9) rfl dX6_symbol_14 ?_
      refine lv_iload_n hx hb dX6_symbol_17 rfl (lv_at hl 1 rfl) ?_
      refine va_iald (D := (dC, dI)) hx hb hK hP 1 0 rfl rfl (vp_in_nI hj4 (by omega)) dX6_symbol_18 ?_
      refine kt_i (congrArg kf (nI_clamp (by omega : j < 2 ^ 31))) ?_
      refine kt_i (y := nI K) hkf ?_
      refine lv_icmp_lt (tgt := 24) hx hb dX6_symbol_19 (by decide) (fun c_4 => ?_) (fun c_4 => ?_)
      · have c_4 : i < (nI K) := c_4
        exact absurd hbad (sp_has_of c_3 c_4)
      · have c_4 : ¬ (i < (nI K)) := c_4
        refine lv_iconst (v := (-1)) hx hb dX6_symbol_22 (by decide) ?_
        exact W.iret (v := (-1)) hx hb hr (fun t9 ht9 hW9 => ⟨(-1), rfl, rfl, ht9⟩) (fun _ h => absurd h List.not_mem_nil) dX6_symbol_23
set_option maxHeartbeats 4000000 in
set_option maxRecDepth 100000 in
theorem c_M_symbol_at (l : Launch) (dC : Nat → ClassId) (dI : Nat → Nat → Nat) (cA : Nat → ClassId) (sz : Nat) (mo : Nat) (mw : Nat) (mk : Nat) (mp : Nat) (mz : Nat) (me : Nat) (mtb : Nat) (my : Nat) (mx : Nat) (mu : Nat) (mn : Nat) (mg : Nat) (mf : Nat) (mi : Nat) (mh : Nat) (mv : Nat) (ms : Nat) (cnt : Nat) (hf : Int32) (fro : Int32) (fsz : Nat) (isz : Nat) (z : Int32) (rk : Nat) (lf : Int64) (lo : Int64) (kf : Nat → Int32) (zf : Nat → Int32) (syf : Nat → Int64) (j : Nat) (K : Nat) (S : Nat) (ii : Nat) (v : Int64) (hj4 : j < 4) (hkf : kf j = nI K) (hzf : zf j = nI S) (hjc : j < cnt) (hc4 : cnt ≤ 4) (hK32 : K ≤ 32) (hii : ii < K) : Met l yX6_symbol (kw_X6_symbol) ({ frames := 1, cells := 0, slots := 0, locals := 23 }) (va_Pc [.ref mo, .int (nI j), .int (nI ii), .long v] (fun U => kRW dC dI cA [(mo, .inr (6, [.ref mw, .int (nI cnt), .ref mk, .ref mp, .ref mz, .ref me, .ref mtb, .ref my, .ref mx, .ref mu, .ref mn, .ref mg, .int hf, .int fro, .ref mf, .int (nI fsz), .ref mi, .int (nI isz), .int z, .ref mh, .ref mv, .int (nI rk), .long lf, .long lo, .ref ms])), (mk, .inl (cA 0, 4, .inl kf)), (mz, .inl (cA 0, 4, .inl zf)), (my, .inl (cA 1, 128, .inr (.inl syf)))] sz U)) (va_Qi (fun r (u : Unit) => r = 1) (fun (u : Unit) t => kB dC dI (va_A [(mo, .inr (6, [.ref mw, .int (nI cnt), .ref mk, .ref mp, .ref mz, .ref me, .ref mtb, .ref my, .ref mx, .ref mu, .ref mn, .ref mg, .int hf, .int fro, .ref mf, .int (nI fsz), .ref mi, .int (nI isz), .int z, .ref mh, .ref mv, .int (nI rk), .long lf, .long lo, .ref ms])), (mk, .inl (cA 0, 4, .inl kf)), (mz, .inl (cA 0, 4, .inl zf)), (my, .inl (cA 1, 128, .inr (.inl syf)))] sz) [(mo, .inr (6, [.ref mw, .int (nI cnt), .ref mk, .ref mp, .ref mz, .ref me, .ref mtb, .ref my, .ref mx, .ref mu, .ref mn, .ref mg, .int hf, .int fro, .ref mf, .int (nI fsz), .ref mi, .int (nI isz), .int z, .ref mh, .ref mv, .int (nI rk), .long lf, .long lo, .ref ms])), (mk, .inl (cA 0, 4, .inl kf)), (mz, .inl (cA 0, 4, .inl zf)), (my, .inl (cA 1, 128, .inr (.inl (vp_updL syf (32 * j + ii) (rs_low S v)))))] t) (va_A [(mo, .inr (6, [.ref mw, .int (nI cnt), .ref mk, .ref mp, .ref mz, .ref me, .ref mtb, .ref my, .ref mx, .ref mu, .ref mn, .ref mg, .int hf, .int fro, .ref mf, .int (nI fsz), .ref mi, .int (nI isz), .int z, .ref mh, .ref mv, .int (nI rk), .long lf, .long lo, .ref ms])), (mk, .inl (cA 0, 4, .inl kf)), (mz, .inl (cA 0, 4, .inl zf)), (my, .inl (cA 1, 128, .inr (.inl syf)))] sz)) 0 0 (va_A [(mo, .inr (6, [.ref mw, .int (nI cnt), .ref mk, .ref mp, .ref mz, .ref me, .ref mtb, .ref my, .ref mx, .ref mu, .ref mn, .ref mg, .int hf, .int fro, .ref mf, .int (nI fsz), .ref mi, .int (nI isz), .int z, .ref mh, .ref mv, .int (nI rk), .long lf, .long lo, .ref ms])), (mk, .inl (cA 0, 4, .inl kf)), (mz, .inl (cA 0, 4, .inl zf)), (my, .inl (cA 1, 128, .inr (.inl syf)))] sz) := by
  refine Met.ofW (cc := cX6_symbol) (maxL := 5) (ret := (some .int)) (by decide) rfl ?_
  intro p e s m args below meth c s₁ B hml hv
  obtain ⟨rfl, hsz, hP, hK, hN, hD0⟩ := hv
  have hx := B.exec
  have hb := B.bytes
  have hr := B.returns
  have hts0 := atoms_spec (ws := (kw_X6_symbol)) B.pre
  have hts : ∀ w ∈ TB, w.before _ s = true := fun w h => hts0 w (List.mem_cons_of_mem _ h)
  have hown : s.vm.findClass RX6 = some m.cls := findClass_of_methodNamed B.named
  have hlocks := B.notSynchronized
  subst hsz
  have hD := hD0.self (sz := s.heap.size)
  generalize hAe : va_A [(mo, .inr (6, [.ref mw, .int (nI cnt), .ref mk, .ref mp, .ref mz, .ref me, .ref mtb, .ref my, .ref mx, .ref mu, .ref mn, .ref mg, .int hf, .int fro, .ref mf, .int (nI fsz), .ref mi, .int (nI isz), .int z, .ref mh, .ref mv, .int (nI rk), .long lf, .long lo, .ref ms])), (mk, .inl (cA 0, 4, .inl kf)), (mz, .inl (cA 0, 4, .inl zf)), (my, .inl (cA 1, 128, .inr (.inl syf)))] s.heap.size = A at hD ⊢
  have hA : ∀ q : Nat, s.heap.size ≤ q → A q := fun q h => by rw [← hAe]; exact Or.inr h
  have hS : va_S A s.heap s.heap [] := va_S.rf
  have hk_0 := hts (.fieldLink RX6 13 "FountainRowsModel" "ks" "[I") tb_308
  have hk_1 := hts (.fieldLink RX6 28 "FountainRowsModel" "symbols" "[J") tb_332
  have hl := lv_entry ([.ref mo, .int (nI j), .int (nI ii), .long v]) (n := 5) (Nat.le_of_ble_eq_true rfl)
  rw [lg_entry_eq]
  generalize (lg_sl ([.ref mo, .int (nI j), .int (nI ii), .long v]) ++ List.replicate (5 - (lg_sl ([.ref mo, .int (nI j), .int (nI ii), .long v])).length) Slot.unset).toArray = ls at hl ⊢
  have hl : lv_has ls 5 [(0, .ref mo), (1, .int (nI j)), (2, .int (nI ii)), (3, .long v)] := hl
  refine lv_aload_n hx hb dX6_symbol_0 rfl (lv_at hl 0 rfl) ?_
  refine lv_iload_n hx hb dX6_symbol_1 rfl (lv_at hl 1 rfl) ?_
  have hPc := hP.sub (ws' := [(mo, .inr (6, [.ref mw, .int (nI cnt), .ref mk, .ref mp, .ref mz, .ref me, .ref mtb, .ref my, .ref mx, .ref mu, .ref mn, .ref mg, .int hf, .int fro, .ref mf, .int (nI fsz), .ref mi, .int (nI isz), .int z, .ref mh, .ref mv, .int (nI rk), .long lf, .long lo, .ref ms]))]) [0] rfl
  refine kq_csi (va_runV (As := [.int (nI j)]) (rest := []) ⟨hx, hb, hml, hown, hts⟩ (c_M_isSource l dC dI cA mo mw mk mp mz me mtb my mx mu mn mg mf mi mh mv ms cnt hf fro fsz isz z rk lf lo (nI j)) (cwV 1 hts (kg_V tb_315 tb_316 tb_317 tb_318 tb_314) rfl rfl rfl (by decide +kernel) ⟨Nat.le_of_ble_eq_true rfl, Nat.le_of_ble_eq_true rfl⟩) (kpv_ro hK hN hPc (ci := 6) (q0 := 0) rfl rfl rfl) rfl rfl hl.1 rfl (lv_room (Nat.le_of_ble_eq_true rfl)) dX6_symbol_2 ⟨Nat.le_of_ble_eq_true rfl, Nat.le_of_ble_eq_true rfl⟩) (fun r_1 hr_1 => ?_)
  refine kt_i (y := sp_has cnt (nI j)) hr_1 ?_
  refine lv_if_eq (tgt := 22) hx hb dX6_symbol_5 (by decide) (fun c_2 => ?_) (fun c_2 => ?_)
  · have c_2 : (sp_has cnt (nI j)) = 0 := c_2
    exact absurd c_2 (sp_has_nI hjc (by omega))
  · have c_2 : ¬ ((sp_has cnt (nI j)) = 0) := c_2
    refine lv_iload_n hx hb dX6_symbol_8 rfl (lv_at hl 2 rfl) ?_
    refine lv_if_lt (tgt := 22) hx hb dX6_symbol_9 (by decide) (fun c_3 => ?_) (fun c_3 => ?_)
    · have c_3 : (nI ii) < 0 := c_3
      exact absurd c_3 (nI_pos (by omega))
    · have c_3 : ¬ ((nI ii) < 0) := c_3
      refine lv_iload_n hx hb dX6_symbol_12 rfl (lv_at hl 2 rfl) ?_
      refine lv_aload_n hx hb dX6_symbol_13 rfl (lv_at hl 0 rfl) ?_
      refine va_get (D := (dC, dI)) (ci := 6) (v := .ref mk) (C := RX6) (T := TX6) (N := 25) hx hb hts inX6 hown hK hP 0 rfl rfl 2 (by decide) hk_0 (fun _ h9 => h9) rfl dX6_symbol_14 ?_
      refine lv_iload_n hx hb dX6_symbol_17 rfl (lv_at hl 1 rfl) ?_
      refine va_iald (D := (dC, dI)) hx hb hK hP 1 0 rfl rfl (vp_in_nI hj4 (by omega)) dX6_symbol_18 ?_
      refine kt_i (congrArg kf (nI_clamp (by omega : j < 2 ^ 31))) ?_
      refine kt_i (y := nI K) hkf ?_
      refine lv_icmp_lt (tgt := 24) hx hb dX6_symbol_19 (by decide) (fun c_4 => ?_) (fun c_4 => ?_)
      · have c_4 : (nI ii) < (nI K) := c_4
        refine lv_aload_n hx hb dX6_symbol_24 rfl (lv_at hl 0 rfl) ?_
        refine va_get (D := (dC, dI)) (ci := 6) (v := .ref my) (C := RX6) (T := TX6) (N := 25) hx hb hts inX6 hown hK hP 0 rfl rfl 7 (by decide) hk_1 (fun _ h9 => h9) rfl dX6_symbol_25 ?_
        refine lv_bipush (v := 32) hx hb dX6_symbol_28 (by decide) ?_
        refine lv_iload_n hx hb dX6_symbol_30 rfl (lv_at hl 1 rfl) ?_
        refine lv_imul hx hb dX6_symbol_31 ?_
        refine kt_i (y := nI (32 * j)) (pk_mul 32 j) ?_
        refine lv_iload_n hx hb dX6_symbol_32 rfl (lv_at hl 2 rfl) ?_
        refine lv_iadd hx hb dX6_symbol_33 ?_
        refine kt_i (y := nI ((32 * j) + ii)) (nI_add (32 * j) ii) ?_
        refine lv_aload_n hx hb dX6_symbol_34 rfl (lv_at hl 0 rfl) ?_
        refine lv_iload_n hx hb dX6_symbol_35 rfl (lv_at hl 1 rfl) ?_
        refine lv_lload_n hx hb dX6_symbol_36 rfl (lv_at hl 3 rfl) ?_
        have hPc := hP.sub (ws' := [(mo, .inr (6, [.ref mw, .int (nI cnt), .ref mk, .ref mp, .ref mz, .ref me, .ref mtb, .ref my, .ref mx, .ref mu, .ref mn, .ref mg, .int hf, .int fro, .ref mf, .int (nI fsz), .ref mi, .int (nI isz), .int z, .ref mh, .ref mv, .int (nI rk), .long lf, .long lo, .ref ms])), (mz, .inl (cA 0, 4, .inl zf))]) [0, 2] rfl
        refine kq_csl (va_runV (As := [.int (nI j), .long v]) (rest := [.int (nI ((32 * j) + ii)), .ref my]) ⟨hx, hb, hml, hown, hts⟩ (c_M_lowest l dC dI cA mo mw mk mp mz me mtb my mx mu mn mg mf mi mh mv ms cnt hf fro fsz isz z rk lf lo zf j S v (by first | assumption | omega) (by first | assumption | omega)) (cwV 2 hts (kg_V tb_329 tb_330 tb_331 tb_318 tb_328) rfl rfl rfl (by decide +kernel) ⟨Nat.le_of_ble_eq_true rfl, Nat.le_of_ble_eq_true rfl⟩) (kpv_ro hK hN hPc (ci := 6) (q0 := 0) rfl rfl rfl) rfl rfl hl.1 rfl (lv_room (Nat.le_of_ble_eq_true rfl)) dX6_symbol_37 ⟨Nat.le_of_ble_eq_true rfl, Nat.le_of_ble_eq_true rfl⟩) (fun r_5 hr_5 => ?_)
        refine kt_l (y := rs_low S v) hr_5 ?_
        refine va_last (D := (dC, dI)) hx hb hK hP hD hS 3 1 rfl rfl (vp_in_nI (by omega) (by omega)) dX6_symbol_40 (fun H locs hP hD hS => ?_)
        rw [nI_clamp (by omega : ((32 * j) + ii) < 2 ^ 31)] at hP hD
        have hP : va_P (dC, dI) vwCl [(mo, .inr (6, [.ref mw, .int (nI cnt), .ref mk, .ref mp, .ref mz, .ref me, .ref mtb, .ref my, .ref mx, .ref mu, .ref mn, .ref mg, .int hf, .int fro, .ref mf, .int (nI fsz), .ref mi, .int (nI isz), .int z, .ref mh, .ref mv, .int (nI rk), .long lf, .long lo, .ref ms])), (mk, .inl (cA 0, 4, .inl kf)), (mz, .inl (cA 0, 4, .inl zf)), (my, .inl (cA 1, 128, .inr (.inl (vp_updL syf ((32 * j) + ii) (rs_low S v)))))] H := hP
        have hD : va_D A [(mo, .inr (6, [.ref mw, .int (nI cnt), .ref mk, .ref mp, .ref mz, .ref me, .ref mtb, .ref my, .ref mx, .ref mu, .ref mn, .ref mg, .int hf, .int fro, .ref mf, .int (nI fsz), .ref mi, .int (nI isz), .int z, .ref mh, .ref mv, .int (nI rk), .long lf, .long lo, .ref ms])), (mk, .inl (cA 0, 4, .inl kf)), (mz, .inl (cA 0, 4, .inl zf)), (my, .inl (cA 1, 128, .inr (.inl (vp_updL syf ((32 * j) + ii) (rs_low S v)))))] := hD
        refine lv_iconst (v := 1) hx hb dX6_symbol_41 (by decide) ?_
        have hP9 := hP.sub (ws' := [(mo, .inr (6, [.ref mw, .int (nI cnt), .ref mk, .ref mp, .ref mz, .ref me, .ref mtb, .ref my, .ref mx, .ref mu, .ref mn, .ref mg, .int hf, .int fro, .ref mf, .int (nI fsz), .ref mi, .int (nI isz), .int z, .ref mh, .ref mv, .int (nI rk), .long lf, .long lo, .ref ms])), (mk, .inl (cA 0, 4, .inl kf)), (mz, .inl (cA 0, 4, .inl zf)), (my, .inl (cA 1, 128, .inr (.inl (vp_updL syf ((32 * j) + ii) (rs_low S v)))))]) [0, 1, 2, 3] rfl
        have hD9 := hD.sub (ws' := [(mo, .inr (6, [.ref mw, .int (nI cnt), .ref mk, .ref mp, .ref mz, .ref me, .ref mtb, .ref my, .ref mx, .ref mu, .ref mn, .ref mg, .int hf, .int fro, .ref mf, .int (nI fsz), .ref mi, .int (nI isz), .int z, .ref mh, .ref mv, .int (nI rk), .long lf, .long lo, .ref ms])), (mk, .inl (cA 0, 4, .inl kf)), (mz, .inl (cA 0, 4, .inl zf)), (my, .inl (cA 1, 128, .inr (.inl (vp_updL syf ((32 * j) + ii) (rs_low S v)))))]) [0, 1, 2, 3] (by decide) rfl
        have e9 : ([(mo, .inr (6, [.ref mw, .int (nI cnt), .ref mk, .ref mp, .ref mz, .ref me, .ref mtb, .ref my, .ref mx, .ref mu, .ref mn, .ref mg, .int hf, .int fro, .ref mf, .int (nI fsz), .ref mi, .int (nI isz), .int z, .ref mh, .ref mv, .int (nI rk), .long lf, .long lo, .ref ms])), (mk, .inl (cA 0, 4, .inl kf)), (mz, .inl (cA 0, 4, .inl zf)), (my, .inl (cA 1, 128, .inr (.inl (vp_updL syf (32 * j + ii) (rs_low S v)))))] : va_W) = [(mo, .inr (6, [.ref mw, .int (nI cnt), .ref mk, .ref mp, .ref mz, .ref me, .ref mtb, .ref my, .ref mx, .ref mu, .ref mn, .ref mg, .int hf, .int fro, .ref mf, .int (nI fsz), .ref mi, .int (nI isz), .int z, .ref mh, .ref mv, .int (nI rk), .long lf, .long lo, .ref ms])), (mk, .inl (cA 0, 4, .inl kf)), (mz, .inl (cA 0, 4, .inl zf)), (my, .inl (cA 1, 128, .inr (.inl (vp_updL syf ((32 * j) + ii) (rs_low S v)))))] := rfl
        exact W.iret (v := 1) hx hb hr (fun t9 ht9 hW9 => ⟨⟨1, (), rfl, rfl, by rw [ht9, e9]; exact hP9, by rw [e9]; exact hD9⟩, hS.F ht9⟩) hS.2.2 dX6_symbol_42
      · have c_4 : ¬ ((nI ii) < (nI K)) := c_4
        exact absurd (nI_lt hii (by omega)) c_4
