set_option maxHeartbeats 4000000 in
set_option maxRecDepth 100000 in
theorem c_M_all (l : Launch) (dC : Nat → ClassId) (dI : Nat → Nat → Nat) (cA : Nat → ClassId) (mo : Nat) (mw : Nat) (mk : Nat) (mp : Nat) (mz : Nat) (me : Nat) (mtb : Nat) (my : Nat) (mx : Nat) (mu : Nat) (mn : Nat) (mg : Nat) (mf : Nat) (mi : Nat) (mh : Nat) (mv : Nat) (ms : Nat) (cnt : Nat) (hf : Int32) (fro : Int32) (fsz : Nat) (isz : Nat) (z : Int32) (rk : Nat) (lf : Int64) (lo : Int64) (kf : Nat → Int32) (syf : Nat → Int64) (j : Nat) (K : Nat) (row : Int64) (hj4 : j < 4) (hkf : kf j = nI K) (hK32 : K ≤ 32) : Met l yX6_all (kw_X6_all) ({ frames := 0, cells := 0, slots := 0, locals := 0 }) (va_Pc [.ref mo, .int (nI j), .long row] (fun U => kRO dC dI cA [(mo, .inr (6, [.ref mw, .int (nI cnt), .ref mk, .ref mp, .ref mz, .ref me, .ref mtb, .ref my, .ref mx, .ref mu, .ref mn, .ref mg, .int hf, .int fro, .ref mf, .int (nI fsz), .ref mi, .int (nI isz), .int z, .ref mh, .ref mv, .int (nI rk), .long lf, .long lo, .ref ms])), (mk, .inl (cA 0, 4, .inl kf)), (my, .inl (cA 1, 128, .inr (.inl syf)))] U)) (vp_Sl (fun r => r = rs_all syf j row K)) 0 0 (fun _ => False) := by
  refine Met.ofW (cc := cX6_all) (maxL := 7) (ret := (some .long)) (by decide) rfl ?_
  intro p e s m args below meth c s₁ B hml hv
  obtain ⟨rfl, hP, hK, hN⟩ := hv
  have hx := B.exec
  have hb := B.bytes
  have hr := B.returns
  have hts0 := atoms_spec (ws := (kw_X6_all)) B.pre
  have hts : ∀ w ∈ TB, w.before _ s = true := fun w h => hts0 w (List.mem_cons_of_mem _ h)
  have hown : s.vm.findClass RX6 = some m.cls := findClass_of_methodNamed B.named
  have hlocks := B.notSynchronized
  have hk_0 := hts (.fieldLink RX6 13 "FountainRowsModel" "ks" "[I") tb_308
  have hk_1 := hts (.fieldLink RX6 28 "FountainRowsModel" "symbols" "[J") tb_332
  have hl := lv_entry ([.ref mo, .int (nI j), .long row]) (n := 7) (Nat.le_of_ble_eq_true rfl)
  rw [lg_entry_eq]
  generalize (lg_sl ([.ref mo, .int (nI j), .long row]) ++ List.replicate (7 - (lg_sl ([.ref mo, .int (nI j), .long row])).length) Slot.unset).toArray = ls at hl ⊢
  have hl : lv_has ls 7 [(0, .ref mo), (1, .int (nI j)), (2, .long row)] := hl
  refine lv_lconst (v := 0) hx hb dX6_all_0 (by decide) ?_
  refine lv_lstore (lv' := [(4, .long 0), (0, .ref mo), (1, .int (nI j)), (2, .long row)]) hx hb dX6_all_1 hl (by decide) rfl (fun ls hl => ?_)
  refine lv_iconst (v := 0) hx hb dX6_all_3 (by decide) ?_
  refine lv_istore (lv' := [(6, .int 0), (4, .long 0), (0, .ref mo), (1, .int (nI j)), (2, .long row)]) hx hb dX6_all_4 hl (by decide) rfl (fun ls hl => ?_)
  have hi_hk : 0 ≤ K := (by omega)
  have hi_hx9 : 0 = rs_all syf j row 0 := rfl
  have hl9 : lv_has ls 7 [(6, .int (nI 0)), (4, .long 0), (0, .ref mo), (1, .int (nI j)), (2, .long row)] := lv_sub hl [0, 1, 2, 3, 4] rfl
  refine r_loop2 (I := fun (k : Nat) (x : Int64) (ls : Array Slot) => (k ≤ K) ∧ (x = rs_all syf j row k) ∧ lv_has ls 7 [(6, .int (nI k)), (4, .long x), (0, .ref mo), (1, .int (nI j)), (2, .long row)]) (μ := fun k x => K - k) ?_ 0 0 ⟨hi_hk, hi_hx9, hl9⟩
  intro k x ls hI9 ih_L0
  obtain ⟨hk, hx9, hl⟩ := hI9
  refine lv_iload hx hb dX6_all_6 (lv_at hl 0 rfl) ?_
  refine lv_aload_n hx hb dX6_all_8 rfl (lv_at hl 2 rfl) ?_
  refine va_get (D := (dC, dI)) (ci := 6) (v := .ref mk) (C := RX6) (T := TX6) (N := 25) hx hb hts inX6 hown hK hP 0 rfl rfl 2 (by decide) hk_0 (fun _ h9 => h9) rfl dX6_all_9 ?_
  refine lv_iload_n hx hb dX6_all_12 rfl (lv_at hl 3 rfl) ?_
  refine va_iald (D := (dC, dI)) hx hb hK hP 1 0 rfl rfl (vp_in_nI hj4 (by omega)) dX6_all_13 ?_
  refine kt_i (congrArg kf (nI_clamp (by omega : j < 2 ^ 31))) ?_
  refine kt_i (y := nI K) hkf ?_
  refine lv_icmp_ge (tgt := 55) hx hb dX6_all_14 (by decide) (fun c_1 => ?_) (fun c_1 => ?_)
  · have c_1 : (nI K) ≤ (nI k) := c_1
    have hk9 : K ≤ k := (ku_le (a := K) (b := k) (by omega) (by omega)).mp c_1
    refine lv_lload hx hb dX6_all_55 (lv_at hl 1 rfl) ?_
    exact W.lret (v := x) hx hb hr (fun t9 ht9 hW9 => ⟨x, rfl, (by have e : k = K := (by omega); rw [hx9, e]), ht9⟩) (fun _ h => absurd h List.not_mem_nil) dX6_all_57
  · have c_1 : ¬ ((nI K) ≤ (nI k)) := c_1
    have hk9 : k < K := (ku_nle (a := K) (b := k) (by omega) (by omega)).mp c_1
    refine lv_lload hx hb dX6_all_17 (lv_at hl 1 rfl) ?_
    refine lv_lload_n hx hb dX6_all_19 rfl (lv_at hl 4 rfl) ?_
    refine lv_iload hx hb dX6_all_20 (lv_at hl 0 rfl) ?_
    refine lv_lshr (v := jv_lshr row (nI k)) hx hb dX6_all_22 rfl ?_
    refine lv_lconst (v := 1) hx hb dX6_all_23 (by decide) ?_
    refine lv_land hx hb dX6_all_24 ?_
    refine lv_lconst (v := 1) hx hb dX6_all_25 (by decide) ?_
    refine W.lcmp hx hb dX6_all_26 ?_
    refine lv_if_ne (tgt := 45) hx hb dX6_all_27 (by decide) (fun c_2 => ?_) (fun c_2 => ?_)
    · have c_2 : ¬ ((lg_cmp ((jv_lshr row (nI k)) &&& 1) 1) = 0) := c_2
      refine lv_lconst (v := 0) hx hb dX6_all_45 (by decide) ?_
      refine lv_lxor hx hb dX6_all_46 ?_
      refine lv_lstore (lv' := [(4, .long (x ^^^ 0)), (6, .int (nI k)), (0, .ref mo), (1, .int (nI j)), (2, .long row)]) hx hb dX6_all_47 hl (by decide) rfl (fun ls hl => ?_)
      refine lv_iinc (v := nI (k + 1)) (lv' := [(6, .int (nI (k + 1))), (4, .long (x ^^^ 0)), (0, .ref mo), (1, .int (nI j)), (2, .long row)]) hx hb dX6_all_49 hl (k := 1) rfl (nI_succ _).symm (by decide) rfl (fun ls hl => ?_)
      refine lv_goto (tgt := 6) hx hb dX6_all_52 (by decide) ?_
      have hi_hk : (k + 1) ≤ K := (by omega)
      have hi_hx9 : (x ^^^ 0) = rs_all syf j row (k + 1) := (by subst hx9; exact (if_neg c_2).symm)
      have hl9 : lv_has ls 7 [(6, .int (nI (k + 1))), (4, .long (x ^^^ 0)), (0, .ref mo), (1, .int (nI j)), (2, .long row)] := lv_sub hl [0, 1, 2, 3, 4] rfl
      exact ih_L0 (k + 1) (x ^^^ 0) ls ⟨hi_hk, hi_hx9, hl9⟩ (by show K - (k + 1) < K - k; omega)
    · have c_2 : (lg_cmp ((jv_lshr row (nI k)) &&& 1) 1) = 0 := c_2
      refine lv_aload_n hx hb dX6_all_30 rfl (lv_at hl 2 rfl) ?_
      refine va_get (D := (dC, dI)) (ci := 6) (v := .ref my) (C := RX6) (T := TX6) (N := 25) hx hb hts inX6 hown hK hP 0 rfl rfl 7 (by decide) hk_1 (fun _ h9 => h9) rfl dX6_all_31 ?_
      refine lv_bipush (v := 32) hx hb dX6_all_34 (by decide) ?_
      refine lv_iload_n hx hb dX6_all_36 rfl (lv_at hl 3 rfl) ?_
      refine lv_imul hx hb dX6_all_37 ?_
      refine kt_i (y := nI (32 * j)) (pk_mul 32 j) ?_
      refine lv_iload hx hb dX6_all_38 (lv_at hl 0 rfl) ?_
      refine lv_iadd hx hb dX6_all_40 ?_
      refine kt_i (y := nI ((32 * j) + k)) (nI_add (32 * j) k) ?_
      refine va_lald (D := (dC, dI)) hx hb hK hP 2 1 rfl rfl (vp_in_nI (by omega) (by omega)) dX6_all_41 ?_
      refine kt_l (congrArg syf (nI_clamp (by omega : ((32 * j) + k) < 2 ^ 31))) ?_
      refine lv_goto (tgt := 46) hx hb dX6_all_42 (by decide) ?_
      refine lv_lxor hx hb dX6_all_46 ?_
      refine lv_lstore (lv' := [(4, .long (x ^^^ (syf ((32 * j) + k)))), (6, .int (nI k)), (0, .ref mo), (1, .int (nI j)), (2, .long row)]) hx hb dX6_all_47 hl (by decide) rfl (fun ls hl => ?_)
      refine lv_iinc (v := nI (k + 1)) (lv' := [(6, .int (nI (k + 1))), (4, .long (x ^^^ (syf ((32 * j) + k)))), (0, .ref mo), (1, .int (nI j)), (2, .long row)]) hx hb dX6_all_49 hl (k := 1) rfl (nI_succ _).symm (by decide) rfl (fun ls hl => ?_)
      refine lv_goto (tgt := 6) hx hb dX6_all_52 (by decide) ?_
      have hi_hk : (k + 1) ≤ K := (by omega)
      have hi_hx9 : (x ^^^ (syf ((32 * j) + k))) = rs_all syf j row (k + 1) := (by subst hx9; exact (if_pos c_2).symm)
      have hl9 : lv_has ls 7 [(6, .int (nI (k + 1))), (4, .long (x ^^^ (syf ((32 * j) + k)))), (0, .ref mo), (1, .int (nI j)), (2, .long row)] := lv_sub hl [0, 1, 2, 3, 4] rfl
      exact ih_L0 (k + 1) (x ^^^ (syf ((32 * j) + k))) ls ⟨hi_hk, hi_hx9, hl9⟩ (by show K - (k + 1) < K - k; omega)
set_option maxHeartbeats 4000000 in
set_option maxRecDepth 100000 in
theorem c_M_partOf (l : Launch) (dC : Nat → ClassId) (dI : Nat → Nat → Nat) (cA : Nat → ClassId) (sz : Nat) (mo : Nat) (mw : Nat) (mk : Nat) (mp : Nat) (mz : Nat) (me : Nat) (mtb : Nat) (my : Nat) (mx : Nat) (mu : Nat) (mn : Nat) (mg : Nat) (mf : Nat) (mi : Nat) (mh : Nat) (mv : Nat) (ms : Nat) (cnt : Nat) (hf : Int32) (fro : Int32) (fsz : Nat) (isz : Nat) (z : Int32) (rk : Nat) (lf : Int64) (lo : Int64) (kf : Nat → Int32) (ef : Nat → Int32) (syf : Nat → Int64) (j : Nat) (K : Nat) (P : Nat) (seed : Int32) (ii : Nat) (hj4 : j < 4) (hkf : kf j = nI K) (hef : ef j = seed) (hK32 : K ≤ 32) (hP8 : P ≤ 8) (hii : ii < K + P) : Met l yX6_partOf (kw_X6_partOf) ({ frames := 2, cells := 0, slots := 0, locals := 45 }) (va_Pc [.ref mo, .int (nI j), .int (nI ii)] (fun U => kRW dC dI cA [(mo, .inr (6, [.ref mw, .int (nI cnt), .ref mk, .ref mp, .ref mz, .ref me, .ref mtb, .ref my, .ref mx, .ref mu, .ref mn, .ref mg, .int hf, .int fro, .ref mf, .int (nI fsz), .ref mi, .int (nI isz), .int z, .ref mh, .ref mv, .int (nI rk), .long lf, .long lo, .ref ms])), (mk, .inl (cA 0, 4, .inl kf)), (me, .inl (cA 0, 4, .inl ef)), (my, .inl (cA 1, 128, .inr (.inl syf)))] sz U)) (va_Ql (fun r (u : Int32) => r = rs_part syf j K seed ii) (fun (u : Int32) t => kB dC dI (va_A [(mo, .inr (6, [.ref mw, .int (nI cnt), .ref mk, .ref mp, .ref mz, .ref me, .ref mtb, .ref my, .ref mx, .ref mu, .ref mn, .ref mg, .int hf, .int fro, .ref mf, .int (nI fsz), .ref mi, .int (nI isz), .int z, .ref mh, .ref mv, .int (nI rk), .long lf, .long lo, .ref ms])), (mk, .inl (cA 0, 4, .inl kf)), (me, .inl (cA 0, 4, .inl ef)), (my, .inl (cA 1, 128, .inr (.inl syf)))] sz) [(mo, .inr (6, [.ref mw, .int (nI cnt), .ref mk, .ref mp, .ref mz, .ref me, .ref mtb, .ref my, .ref mx, .ref mu, .ref mn, .ref mg, .int hf, .int fro, .ref mf, .int (nI fsz), .ref mi, .int (nI isz), .int u, .ref mh, .ref mv, .int (nI rk), .long lf, .long lo, .ref ms])), (mk, .inl (cA 0, 4, .inl kf)), (me, .inl (cA 0, 4, .inl ef)), (my, .inl (cA 1, 128, .inr (.inl syf)))] t) (va_A [(mo, .inr (6, [.ref mw, .int (nI cnt), .ref mk, .ref mp, .ref mz, .ref me, .ref mtb, .ref my, .ref mx, .ref mu, .ref mn, .ref mg, .int hf, .int fro, .ref mf, .int (nI fsz), .ref mi, .int (nI isz), .int z, .ref mh, .ref mv, .int (nI rk), .long lf, .long lo, .ref ms])), (mk, .inl (cA 0, 4, .inl kf)), (me, .inl (cA 0, 4, .inl ef)), (my, .inl (cA 1, 128, .inr (.inl syf)))] sz)) 0 0 (va_A [(mo, .inr (6, [.ref mw, .int (nI cnt), .ref mk, .ref mp, .ref mz, .ref me, .ref mtb, .ref my, .ref mx, .ref mu, .ref mn, .ref mg, .int hf, .int fro, .ref mf, .int (nI fsz), .ref mi, .int (nI isz), .int z, .ref mh, .ref mv, .int (nI rk), .long lf, .long lo, .ref ms])), (mk, .inl (cA 0, 4, .inl kf)), (me, .inl (cA 0, 4, .inl ef)), (my, .inl (cA 1, 128, .inr (.inl syf)))] sz) := by
  refine Met.ofW (cc := cX6_partOf) (maxL := 3) (ret := (some .long)) (by decide) rfl ?_
  intro p e s m args below meth c s₁ B hml hv
  obtain ⟨rfl, hsz, hP, hK, hN, hD0⟩ := hv
  have hx := B.exec
  have hb := B.bytes
  have hr := B.returns
  have hts0 := atoms_spec (ws := (kw_X6_partOf)) B.pre
  have hts : ∀ w ∈ TB, w.before _ s = true := fun w h => hts0 w (List.mem_cons_of_mem _ h)
  have hown : s.vm.findClass RX6 = some m.cls := findClass_of_methodNamed B.named
  have hlocks := B.notSynchronized
  subst hsz
  have hD := hD0.self (sz := s.heap.size)
  generalize hAe : va_A [(mo, .inr (6, [.ref mw, .int (nI cnt), .ref mk, .ref mp, .ref mz, .ref me, .ref mtb, .ref my, .ref mx, .ref mu, .ref mn, .ref mg, .int hf, .int fro, .ref mf, .int (nI fsz), .ref mi, .int (nI isz), .int z, .ref mh, .ref mv, .int (nI rk), .long lf, .long lo, .ref ms])), (mk, .inl (cA 0, 4, .inl kf)), (me, .inl (cA 0, 4, .inl ef)), (my, .inl (cA 1, 128, .inr (.inl syf)))] s.heap.size = A at hD ⊢
  have hA : ∀ q : Nat, s.heap.size ≤ q → A q := fun q h => by rw [← hAe]; exact Or.inr h
  have hS : va_S A s.heap s.heap [] := va_S.rf
  have hk_0 := hts (.fieldLink RX6 13 "FountainRowsModel" "ks" "[I") tb_308
  have hk_1 := hts (.fieldLink RX6 28 "FountainRowsModel" "symbols" "[J") tb_332
  have hl := lv_entry ([.ref mo, .int (nI j), .int (nI ii)]) (n := 3) (Nat.le_of_ble_eq_true rfl)
  rw [lg_entry_eq]
  generalize (lg_sl ([.ref mo, .int (nI j), .int (nI ii)]) ++ List.replicate (3 - (lg_sl ([.ref mo, .int (nI j), .int (nI ii)])).length) Slot.unset).toArray = ls at hl ⊢
  have hl : lv_has ls 3 [(0, .ref mo), (1, .int (nI j)), (2, .int (nI ii))] := hl
  refine lv_iload_n hx hb dX6_partOf_0 rfl (lv_at hl 2 rfl) ?_
  refine lv_aload_n hx hb dX6_partOf_1 rfl (lv_at hl 0 rfl) ?_
  refine va_get (D := (dC, dI)) (ci := 6) (v := .ref mk) (C := RX6) (T := TX6) (N := 25) hx hb hts inX6 hown hK hP 0 rfl rfl 2 (by decide) hk_0 (fun _ h9 => h9) rfl dX6_partOf_2 ?_
  refine lv_iload_n hx hb dX6_partOf_5 rfl (lv_at hl 1 rfl) ?_
  refine va_iald (D := (dC, dI)) hx hb hK hP 1 0 rfl rfl (vp_in_nI hj4 (by omega)) dX6_partOf_6 ?_
  refine kt_i (congrArg kf (nI_clamp (by omega : j < 2 ^ 31))) ?_
  refine kt_i (y := nI K) hkf ?_
  refine lv_icmp_ge (tgt := 22) hx hb dX6_partOf_7 (by decide) (fun c_1 => ?_) (fun c_1 => ?_)
  · have c_1 : (nI K) ≤ (nI ii) := c_1
    have hb0 : K ≤ ii := (ku_le (by omega) (by omega)).mp c_1
    refine lv_aload_n hx hb dX6_partOf_22 rfl (lv_at hl 0 rfl) ?_
    refine lv_iload_n hx hb dX6_partOf_23 rfl (lv_at hl 1 rfl) ?_
    refine lv_aload_n hx hb dX6_partOf_24 rfl (lv_at hl 0 rfl) ?_
    refine lv_iload_n hx hb dX6_partOf_25 rfl (lv_at hl 1 rfl) ?_
    refine lv_iload_n hx hb dX6_partOf_26 rfl (lv_at hl 2 rfl) ?_
    refine lv_aload_n hx hb dX6_partOf_27 rfl (lv_at hl 0 rfl) ?_
    refine va_get (D := (dC, dI)) (ci := 6) (v := .ref mk) (C := RX6) (T := TX6) (N := 25) hx hb hts inX6 hown hK hP 0 rfl rfl 2 (by decide) hk_0 (fun _ h9 => h9) rfl dX6_partOf_28 ?_
    refine lv_iload_n hx hb dX6_partOf_31 rfl (lv_at hl 1 rfl) ?_
    refine va_iald (D := (dC, dI)) hx hb hK hP 1 0 rfl rfl (vp_in_nI hj4 (by omega)) dX6_partOf_32 ?_
    refine kt_i (congrArg kf (nI_clamp (by omega : j < 2 ^ 31))) ?_
    refine kt_i (y := nI K) hkf ?_
    refine lv_isub hx hb dX6_partOf_33 ?_
    have hPc := hP.sub (ws' := [(mo, .inr (6, [.ref mw, .int (nI cnt), .ref mk, .ref mp, .ref mz, .ref me, .ref mtb, .ref my, .ref mx, .ref mu, .ref mn, .ref mg, .int hf, .int fro, .ref mf, .int (nI fsz), .ref mi, .int (nI isz), .int z, .ref mh, .ref mv, .int (nI rk), .long lf, .long lo, .ref ms])), (mk, .inl (cA 0, 4, .inl kf)), (me, .inl (cA 0, 4, .inl ef))]) [0, 1, 2] rfl
    have hDc := hD.sub (ws' := [(mo, .inr (6, [.ref mw, .int (nI cnt), .ref mk, .ref mp, .ref mz, .ref me, .ref mtb, .ref my, .ref mx, .ref mu, .ref mn, .ref mg, .int hf, .int fro, .ref mf, .int (nI fsz), .ref mi, .int (nI isz), .int z, .ref mh, .ref mv, .int (nI rk), .long lf, .long lo, .ref ms])), (mk, .inl (cA 0, 4, .inl kf)), (me, .inl (cA 0, 4, .inl ef))]) [0, 1, 2] (by decide) rfl
    have hFc := va_free (wc := [(mo, .inr (6, [.ref mw, .int (nI cnt), .ref mk, .ref mp, .ref mz, .ref me, .ref mtb, .ref my, .ref mx, .ref mu, .ref mn, .ref mg, .int hf, .int fro, .ref mf, .int (nI fsz), .ref mi, .int (nI isz), .int z, .ref mh, .ref mv, .int (nI rk), .long lf, .long lo, .ref ms])), (mk, .inl (cA 0, 4, .inl kf)), (me, .inl (cA 0, 4, .inl ef))]) hD hS hA [0, 1, 2] rfl
    refine va_calll (va_runV (As := [.int (nI j), .int ((nI ii) - (nI K))]) (rest := [.int (nI j), .ref mo]) ⟨hx, hb, hml, hown, hts⟩ (c_M_sumOf l dC dI cA s.heap.size mo mw mk mp mz me mtb my mx mu mn mg mf mi mh mv ms cnt hf fro fsz isz z rk lf lo kf ef j K seed ((nI ii) - (nI K)) (by first | assumption | omega) (by first | assumption | omega) (by first | assumption | omega) (by first | assumption | omega)) (cwV 2 hts (kg_V tb_341 tb_342 tb_343 tb_318 tb_340) rfl rfl rfl (by decide +kernel) ⟨Nat.le_of_ble_eq_true rfl, Nat.le_of_ble_eq_true rfl⟩) (kpv_rw hK hN hPc hDc (ci := 6) (q0 := 0) rfl rfl rfl) rfl rfl hl.1 rfl (lv_room (Nat.le_of_ble_eq_true rfl)) dX6_partOf_34 ⟨Nat.le_of_ble_eq_true rfl, Nat.le_of_ble_eq_true rfl⟩) hS (fun q _ h => hFc q h) hFc (fun r_2 u9 t9 H1 locs ht9 hvm9 hr_2 hB hz1 hk1 hS => ?_)
    obtain ⟨z2_3, rfl⟩ : ∃ z, z = u9 := ⟨_, rfl⟩
    obtain ⟨hP1, hD1⟩ := hB
    rw [ht9] at hP1
    obtain ⟨hP, hD⟩ := va_join (wr := [(my, .inl (cA 1, 128, .inr (.inl syf)))]) (w1 := [(mo, .inr (6, [.ref mw, .int (nI cnt), .ref mk, .ref mp, .ref mz, .ref me, .ref mtb, .ref my, .ref mx, .ref mu, .ref mn, .ref mg, .int hf, .int fro, .ref mf, .int (nI fsz), .ref mi, .int (nI isz), .int z2_3, .ref mh, .ref mv, .int (nI rk), .long lf, .long lo, .ref ms])), (mk, .inl (cA 0, 4, .inl kf)), (me, .inl (cA 0, 4, .inl ef))]) hP hD [0, 1, 2] [3] rfl rfl (by decide) (by decide) hk1 hFc hP1 hD1
    generalize H1 = H at hP hS ⊢
    have hP : va_P (dC, dI) vwCl [(my, .inl (cA 1, 128, .inr (.inl syf))), (mo, .inr (6, [.ref mw, .int (nI cnt), .ref mk, .ref mp, .ref mz, .ref me, .ref mtb, .ref my, .ref mx, .ref mu, .ref mn, .ref mg, .int hf, .int fro, .ref mf, .int (nI fsz), .ref mi, .int (nI isz), .int z2_3, .ref mh, .ref mv, .int (nI rk), .long lf, .long lo, .ref ms])), (mk, .inl (cA 0, 4, .inl kf)), (me, .inl (cA 0, 4, .inl ef))] H := hP
    have hD : va_D A [(my, .inl (cA 1, 128, .inr (.inl syf))), (mo, .inr (6, [.ref mw, .int (nI cnt), .ref mk, .ref mp, .ref mz, .ref me, .ref mtb, .ref my, .ref mx, .ref mu, .ref mn, .ref mg, .int hf, .int fro, .ref mf, .int (nI fsz), .ref mi, .int (nI isz), .int z2_3, .ref mh, .ref mv, .int (nI rk), .long lf, .long lo, .ref ms])), (mk, .inl (cA 0, 4, .inl kf)), (me, .inl (cA 0, 4, .inl ef))] := hD
    refine kt_l (y := rs_sb (seed + (40503 * (((nI ii) - (nI K)) + 1))) K) hr_2 ?_
    have hPc := hP.sub (ws' := [(mo, .inr (6, [.ref mw, .int (nI cnt), .ref mk, .ref mp, .ref mz, .ref me, .ref mtb, .ref my, .ref mx, .ref mu, .ref mn, .ref mg, .int hf, .int fro, .ref mf, .int (nI fsz), .ref mi, .int (nI isz), .int z2_3, .ref mh, .ref mv, .int (nI rk), .long lf, .long lo, .ref ms])), (mk, .inl (cA 0, 4, .inl kf)), (my, .inl (cA 1, 128, .inr (.inl syf)))]) [1, 2, 0] rfl
    refine kq_csl (va_runV (As := [.int (nI j), .long (rs_sb (seed + (40503 * (((nI ii) - (nI K)) + 1))) K)]) (rest := []) ⟨hx, hb, hml, hown, hts⟩ (c_M_all l dC dI cA mo mw mk mp mz me mtb my mx mu mn mg mf mi mh mv ms cnt hf fro fsz isz z2_3 rk lf lo kf syf j K (rs_sb (seed + (40503 * (((nI ii) - (nI K)) + 1))) K) (by first | assumption | omega) (by first | assumption | omega) (by first | assumption | omega)) (cwV 2 hts (kg_V tb_345 tb_346 tb_347 tb_318 tb_344) rfl rfl rfl (by decide +kernel) ⟨Nat.le_of_ble_eq_true rfl, Nat.le_of_ble_eq_true rfl⟩) (kpv_ro hK hN hPc (ci := 6) (q0 := 0) rfl rfl rfl) rfl rfl hl.1 rfl (lv_room (Nat.le_of_ble_eq_true rfl)) dX6_partOf_37 ⟨Nat.le_of_ble_eq_true rfl, Nat.le_of_ble_eq_true rfl⟩) (fun r_4 hr_4 => ?_)
    refine kt_l (y := rs_all syf j (rs_sb (seed + (40503 * (((nI ii) - (nI K)) + 1))) K) K) hr_4 ?_
    have hP9 := hP.sub (ws' := [(mo, .inr (6, [.ref mw, .int (nI cnt), .ref mk, .ref mp, .ref mz, .ref me, .ref mtb, .ref my, .ref mx, .ref mu, .ref mn, .ref mg, .int hf, .int fro, .ref mf, .int (nI fsz), .ref mi, .int (nI isz), .int z2_3, .ref mh, .ref mv, .int (nI rk), .long lf, .long lo, .ref ms])), (mk, .inl (cA 0, 4, .inl kf)), (me, .inl (cA 0, 4, .inl ef)), (my, .inl (cA 1, 128, .inr (.inl syf)))]) [1, 2, 3, 0] rfl
    have hD9 := hD.sub (ws' := [(mo, .inr (6, [.ref mw, .int (nI cnt), .ref mk, .ref mp, .ref mz, .ref me, .ref mtb, .ref my, .ref mx, .ref mu, .ref mn, .ref mg, .int hf, .int fro, .ref mf, .int (nI fsz), .ref mi, .int (nI isz), .int z2_3, .ref mh, .ref mv, .int (nI rk), .long lf, .long lo, .ref ms])), (mk, .inl (cA 0, 4, .inl kf)), (me, .inl (cA 0, 4, .inl ef)), (my, .inl (cA 1, 128, .inr (.inl syf)))]) [1, 2, 3, 0] (by decide) rfl
    exact W.lret (v := rs_all syf j (rs_sb (seed + (40503 * (((nI ii) - (nI K)) + 1))) K) K) hx hb hr (fun t9 ht9 hW9 => ⟨⟨rs_all syf j (rs_sb (seed + (40503 * (((nI ii) - (nI K)) + 1))) K) K, z2_3, rfl, (by unfold rs_part; rw [if_pos hb0]), by rw [ht9]; exact hP9, hD9⟩, hS.F ht9⟩) hS.2.2 dX6_partOf_40
  · have c_1 : ¬ ((nI K) ≤ (nI ii)) := c_1
    have hb0 : ii < K := (ku_nle (by omega) (by omega)).mp c_1
    refine lv_aload_n hx hb dX6_partOf_10 rfl (lv_at hl 0 rfl) ?_
    refine va_get (D := (dC, dI)) (ci := 6) (v := .ref my) (C := RX6) (T := TX6) (N := 25) hx hb hts inX6 hown hK hP 0 rfl rfl 7 (by decide) hk_1 (fun _ h9 => h9) rfl dX6_partOf_11 ?_
    refine lv_bipush (v := 32) hx hb dX6_partOf_14 (by decide) ?_
    refine lv_iload_n hx hb dX6_partOf_16 rfl (lv_at hl 1 rfl) ?_
    refine lv_imul hx hb dX6_partOf_17 ?_
    refine kt_i (y := nI (32 * j)) (pk_mul 32 j) ?_
    refine lv_iload_n hx hb dX6_partOf_18 rfl (lv_at hl 2 rfl) ?_
    refine lv_iadd hx hb dX6_partOf_19 ?_
    refine kt_i (y := nI ((32 * j) + ii)) (nI_add (32 * j) ii) ?_
    refine va_lald (D := (dC, dI)) hx hb hK hP 3 1 rfl rfl (vp_in_nI (by omega) (by omega)) dX6_partOf_20 ?_
    refine kt_l (congrArg syf (nI_clamp (by omega : ((32 * j) + ii) < 2 ^ 31))) ?_
    have hP9 := hP.sub (ws' := [(mo, .inr (6, [.ref mw, .int (nI cnt), .ref mk, .ref mp, .ref mz, .ref me, .ref mtb, .ref my, .ref mx, .ref mu, .ref mn, .ref mg, .int hf, .int fro, .ref mf, .int (nI fsz), .ref mi, .int (nI isz), .int z, .ref mh, .ref mv, .int (nI rk), .long lf, .long lo, .ref ms])), (mk, .inl (cA 0, 4, .inl kf)), (me, .inl (cA 0, 4, .inl ef)), (my, .inl (cA 1, 128, .inr (.inl syf)))]) [0, 1, 2, 3] rfl
    have hD9 := hD.sub (ws' := [(mo, .inr (6, [.ref mw, .int (nI cnt), .ref mk, .ref mp, .ref mz, .ref me, .ref mtb, .ref my, .ref mx, .ref mu, .ref mn, .ref mg, .int hf, .int fro, .ref mf, .int (nI fsz), .ref mi, .int (nI isz), .int z, .ref mh, .ref mv, .int (nI rk), .long lf, .long lo, .ref ms])), (mk, .inl (cA 0, 4, .inl kf)), (me, .inl (cA 0, 4, .inl ef)), (my, .inl (cA 1, 128, .inr (.inl syf)))]) [0, 1, 2, 3] (by decide) rfl
    exact W.lret (v := syf ((32 * j) + ii)) hx hb hr (fun t9 ht9 hW9 => ⟨⟨syf ((32 * j) + ii), z, rfl, (by unfold rs_part; rw [if_neg (by omega)]), by rw [ht9]; exact hP9, hD9⟩, hS.F ht9⟩) hS.2.2 dX6_partOf_21
set_option maxHeartbeats 4000000 in
set_option maxRecDepth 100000 in
theorem c_M_output (l : Launch) (dC : Nat → ClassId) (dI : Nat → Nat → Nat) (cA : Nat → ClassId) (sz : Nat) (mo : Nat) (mw : Nat) (mk : Nat) (mp : Nat) (mz : Nat) (me : Nat) (mtb : Nat) (my : Nat) (mx : Nat) (mu : Nat) (mn : Nat) (mg : Nat) (mf : Nat) (mi : Nat) (mh : Nat) (mv : Nat) (ms : Nat) (cnt : Nat) (hf : Int32) (fro : Int32) (fsz : Nat) (isz : Nat) (z : Int32) (rk : Nat) (lf : Int64) (lo : Int64) (kf : Nat → Int32) (pf : Nat → Int32) (ef : Nat → Int32) (tbf : Nat → Int32) (syf : Nat → Int64) (j : Nat) (K : Nat) (P : Nat) (seed : Int32) (wN : Nat → Nat) (x : Int32) (hj4 : j < 4) (hkf : kf j = nI K) (hpf : pf j = nI P) (hef : ef j = seed) (hK32 : K ≤ 32) (hP8 : P ≤ 8) (hK1 : 1 ≤ K) (hw : ∀ d, d < 13 → tbf (13 * j + d) = nI (wN d)) (hwb : ∀ d, d < 13 → wN d ≤ 100) (htot : 0 < rs_ws wN 12) : Met l yX6_output (kw_X6_output) ({ frames := 2, cells := 0, slots := 0, locals := 52 }) (va_Pc [.ref mo, .int (nI j), .int x] (fun U => kRW dC dI cA [(mo, .inr (6, [.ref mw, .int (nI cnt), .ref mk, .ref mp, .ref mz, .ref me, .ref mtb, .ref my, .ref mx, .ref mu, .ref mn, .ref mg, .int hf, .int fro, .ref mf, .int (nI fsz), .ref mi, .int (nI isz), .int z, .ref mh, .ref mv, .int (nI rk), .long lf, .long lo, .ref ms])), (mk, .inl (cA 0, 4, .inl kf)), (mp, .inl (cA 0, 4, .inl pf)), (me, .inl (cA 0, 4, .inl ef)), (mtb, .inl (cA 0, 52, .inl tbf)), (my, .inl (cA 1, 128, .inr (.inl syf)))] sz U)) (va_Ql (fun r (u : Int32) => r = rs_out syf j K seed (rs_row K P seed wN x) P) (fun (u : Int32) t => kB dC dI (va_A [(mo, .inr (6, [.ref mw, .int (nI cnt), .ref mk, .ref mp, .ref mz, .ref me, .ref mtb, .ref my, .ref mx, .ref mu, .ref mn, .ref mg, .int hf, .int fro, .ref mf, .int (nI fsz), .ref mi, .int (nI isz), .int z, .ref mh, .ref mv, .int (nI rk), .long lf, .long lo, .ref ms])), (mk, .inl (cA 0, 4, .inl kf)), (mp, .inl (cA 0, 4, .inl pf)), (me, .inl (cA 0, 4, .inl ef)), (mtb, .inl (cA 0, 52, .inl tbf)), (my, .inl (cA 1, 128, .inr (.inl syf)))] sz) [(mo, .inr (6, [.ref mw, .int (nI cnt), .ref mk, .ref mp, .ref mz, .ref me, .ref mtb, .ref my, .ref mx, .ref mu, .ref mn, .ref mg, .int hf, .int fro, .ref mf, .int (nI fsz), .ref mi, .int (nI isz), .int u, .ref mh, .ref mv, .int (nI rk), .long lf, .long lo, .ref ms])), (mk, .inl (cA 0, 4, .inl kf)), (mp, .inl (cA 0, 4, .inl pf)), (me, .inl (cA 0, 4, .inl ef)), (mtb, .inl (cA 0, 52, .inl tbf)), (my, .inl (cA 1, 128, .inr (.inl syf)))] t) (va_A [(mo, .inr (6, [.ref mw, .int (nI cnt), .ref mk, .ref mp, .ref mz, .ref me, .ref mtb, .ref my, .ref mx, .ref mu, .ref mn, .ref mg, .int hf, .int fro, .ref mf, .int (nI fsz), .ref mi, .int (nI isz), .int z, .ref mh, .ref mv, .int (nI rk), .long lf, .long lo, .ref ms])), (mk, .inl (cA 0, 4, .inl kf)), (mp, .inl (cA 0, 4, .inl pf)), (me, .inl (cA 0, 4, .inl ef)), (mtb, .inl (cA 0, 52, .inl tbf)), (my, .inl (cA 1, 128, .inr (.inl syf)))] sz)) 0 0 (va_A [(mo, .inr (6, [.ref mw, .int (nI cnt), .ref mk, .ref mp, .ref mz, .ref me, .ref mtb, .ref my, .ref mx, .ref mu, .ref mn, .ref mg, .int hf, .int fro, .ref mf, .int (nI fsz), .ref mi, .int (nI isz), .int z, .ref mh, .ref mv, .int (nI rk), .long lf, .long lo, .ref ms])), (mk, .inl (cA 0, 4, .inl kf)), (mp, .inl (cA 0, 4, .inl pf)), (me, .inl (cA 0, 4, .inl ef)), (mtb, .inl (cA 0, 52, .inl tbf)), (my, .inl (cA 1, 128, .inr (.inl syf)))] sz) := by
  refine Met.ofW (cc := cX6_output) (maxL := 8) (ret := (some .long)) (by decide) rfl ?_
  intro p e s m args below meth c s₁ B hml hv
  obtain ⟨rfl, hsz, hP, hK, hN, hD0⟩ := hv
  have hx := B.exec
  have hb := B.bytes
  have hr := B.returns
  have hts0 := atoms_spec (ws := (kw_X6_output)) B.pre
  have hts : ∀ w ∈ TB, w.before _ s = true := fun w h => hts0 w (List.mem_cons_of_mem _ h)
  have hown : s.vm.findClass RX6 = some m.cls := findClass_of_methodNamed B.named
  have hlocks := B.notSynchronized
  subst hsz
  have hD := hD0.self (sz := s.heap.size)
  generalize hAe : va_A [(mo, .inr (6, [.ref mw, .int (nI cnt), .ref mk, .ref mp, .ref mz, .ref me, .ref mtb, .ref my, .ref mx, .ref mu, .ref mn, .ref mg, .int hf, .int fro, .ref mf, .int (nI fsz), .ref mi, .int (nI isz), .int z, .ref mh, .ref mv, .int (nI rk), .long lf, .long lo, .ref ms])), (mk, .inl (cA 0, 4, .inl kf)), (mp, .inl (cA 0, 4, .inl pf)), (me, .inl (cA 0, 4, .inl ef)), (mtb, .inl (cA 0, 52, .inl tbf)), (my, .inl (cA 1, 128, .inr (.inl syf)))] s.heap.size = A at hD ⊢
  have hA : ∀ q : Nat, s.heap.size ≤ q → A q := fun q h => by rw [← hAe]; exact Or.inr h
  have hS : va_S A s.heap s.heap [] := va_S.rf
  have hk_0 := hts (.fieldLink RX6 16 "FountainRowsModel" "ps" "[I") tb_309
  have hk_1 := hts (.fieldLink RX6 13 "FountainRowsModel" "ks" "[I") tb_308
  have hl := lv_entry ([.ref mo, .int (nI j), .int x]) (n := 8) (Nat.le_of_ble_eq_true rfl)
  rw [lg_entry_eq]
  generalize (lg_sl ([.ref mo, .int (nI j), .int x]) ++ List.replicate (8 - (lg_sl ([.ref mo, .int (nI j), .int x])).length) Slot.unset).toArray = ls at hl ⊢
  have hl : lv_has ls 8 [(0, .ref mo), (1, .int (nI j)), (2, .int x)] := hl
  refine lv_aload_n hx hb dX6_output_0 rfl (lv_at hl 0 rfl) ?_
  refine lv_iload_n hx hb dX6_output_1 rfl (lv_at hl 1 rfl) ?_
  refine lv_iload_n hx hb dX6_output_2 rfl (lv_at hl 2 rfl) ?_
  have hPc := hP.sub (ws' := [(mo, .inr (6, [.ref mw, .int (nI cnt), .ref mk, .ref mp, .ref mz, .ref me, .ref mtb, .ref my, .ref mx, .ref mu, .ref mn, .ref mg, .int hf, .int fro, .ref mf, .int (nI fsz), .ref mi, .int (nI isz), .int z, .ref mh, .ref mv, .int (nI rk), .long lf, .long lo, .ref ms])), (mk, .inl (cA 0, 4, .inl kf)), (mp, .inl (cA 0, 4, .inl pf)), (me, .inl (cA 0, 4, .inl ef)), (mtb, .inl (cA 0, 52, .inl tbf))]) [0, 1, 2, 3, 4] rfl
  have hDc := hD.sub (ws' := [(mo, .inr (6, [.ref mw, .int (nI cnt), .ref mk, .ref mp, .ref mz, .ref me, .ref mtb, .ref my, .ref mx, .ref mu, .ref mn, .ref mg, .int hf, .int fro, .ref mf, .int (nI fsz), .ref mi, .int (nI isz), .int z, .ref mh, .ref mv, .int (nI rk), .long lf, .long lo, .ref ms])), (mk, .inl (cA 0, 4, .inl kf)), (mp, .inl (cA 0, 4, .inl pf)), (me, .inl (cA 0, 4, .inl ef)), (mtb, .inl (cA 0, 52, .inl tbf))]) [0, 1, 2, 3, 4] (by decide) rfl
  have hFc := va_free (wc := [(mo, .inr (6, [.ref mw, .int (nI cnt), .ref mk, .ref mp, .ref mz, .ref me, .ref mtb, .ref my, .ref mx, .ref mu, .ref mn, .ref mg, .int hf, .int fro, .ref mf, .int (nI fsz), .ref mi, .int (nI isz), .int z, .ref mh, .ref mv, .int (nI rk), .long lf, .long lo, .ref ms])), (mk, .inl (cA 0, 4, .inl kf)), (mp, .inl (cA 0, 4, .inl pf)), (me, .inl (cA 0, 4, .inl ef)), (mtb, .inl (cA 0, 52, .inl tbf))]) hD hS hA [0, 1, 2, 3, 4] rfl
  refine va_calll (va_runV (As := [.int (nI j), .int x]) (rest := []) ⟨hx, hb, hml, hown, hts⟩ (c_M_rowOf l dC dI cA s.heap.size mo mw mk mp mz me mtb my mx mu mn mg mf mi mh mv ms cnt hf fro fsz isz z rk lf lo kf pf ef tbf j K P seed wN x (by first | assumption | omega) (by first | assumption | omega) (by first | assumption | omega) (by first | assumption | omega) (by first | assumption | omega) (by first | assumption | omega) (by first | assumption | omega) (by first | assumption | omega) (by first | assumption | omega) (by first | assumption | omega)) (cwV 2 hts (kg_V tb_349 tb_350 tb_351 tb_318 tb_348) rfl rfl rfl (by decide +kernel) ⟨Nat.le_of_ble_eq_true rfl, Nat.le_of_ble_eq_true rfl⟩) (kpv_rw hK hN hPc hDc (ci := 6) (q0 := 0) rfl rfl rfl) rfl rfl hl.1 rfl (lv_room (Nat.le_of_ble_eq_true rfl)) dX6_output_3 ⟨Nat.le_of_ble_eq_true rfl, Nat.le_of_ble_eq_true rfl⟩) hS (fun q _ h => hFc q h) hFc (fun r_1 u9 t9 H1 locs ht9 hvm9 hr_1 hB hz1 hk1 hS => ?_)
  obtain ⟨z2_2, rfl⟩ : ∃ z, z = u9 := ⟨_, rfl⟩
  obtain ⟨hP1, hD1⟩ := hB
  rw [ht9] at hP1
  obtain ⟨hP, hD⟩ := va_join (wr := [(my, .inl (cA 1, 128, .inr (.inl syf)))]) (w1 := [(mo, .inr (6, [.ref mw, .int (nI cnt), .ref mk, .ref mp, .ref mz, .ref me, .ref mtb, .ref my, .ref mx, .ref mu, .ref mn, .ref mg, .int hf, .int fro, .ref mf, .int (nI fsz), .ref mi, .int (nI isz), .int z2_2, .ref mh, .ref mv, .int (nI rk), .long lf, .long lo, .ref ms])), (mk, .inl (cA 0, 4, .inl kf)), (mp, .inl (cA 0, 4, .inl pf)), (me, .inl (cA 0, 4, .inl ef)), (mtb, .inl (cA 0, 52, .inl tbf))]) hP hD [0, 1, 2, 3, 4] [5] rfl rfl (by decide) (by decide) hk1 hFc hP1 hD1
  generalize H1 = H at hP hS ⊢
  have hP : va_P (dC, dI) vwCl [(my, .inl (cA 1, 128, .inr (.inl syf))), (mo, .inr (6, [.ref mw, .int (nI cnt), .ref mk, .ref mp, .ref mz, .ref me, .ref mtb, .ref my, .ref mx, .ref mu, .ref mn, .ref mg, .int hf, .int fro, .ref mf, .int (nI fsz), .ref mi, .int (nI isz), .int z2_2, .ref mh, .ref mv, .int (nI rk), .long lf, .long lo, .ref ms])), (mk, .inl (cA 0, 4, .inl kf)), (mp, .inl (cA 0, 4, .inl pf)), (me, .inl (cA 0, 4, .inl ef)), (mtb, .inl (cA 0, 52, .inl tbf))] H := hP
  have hD : va_D A [(my, .inl (cA 1, 128, .inr (.inl syf))), (mo, .inr (6, [.ref mw, .int (nI cnt), .ref mk, .ref mp, .ref mz, .ref me, .ref mtb, .ref my, .ref mx, .ref mu, .ref mn, .ref mg, .int hf, .int fro, .ref mf, .int (nI fsz), .ref mi, .int (nI isz), .int z2_2, .ref mh, .ref mv, .int (nI rk), .long lf, .long lo, .ref ms])), (mk, .inl (cA 0, 4, .inl kf)), (mp, .inl (cA 0, 4, .inl pf)), (me, .inl (cA 0, 4, .inl ef)), (mtb, .inl (cA 0, 52, .inl tbf))] := hD
  refine kt_l (y := rs_row K P seed wN x) hr_1 ?_
  refine lv_lstore_n (lv' := [(3, .long (rs_row K P seed wN x)), (0, .ref mo), (1, .int (nI j)), (2, .int x)]) hx hb dX6_output_6 rfl hl (by decide) rfl (fun ls hl => ?_)
  refine lv_aload_n hx hb dX6_output_7 rfl (lv_at hl 1 rfl) ?_
  refine lv_iload_n hx hb dX6_output_8 rfl (lv_at hl 2 rfl) ?_
  refine lv_lload_n hx hb dX6_output_9 rfl (lv_at hl 0 rfl) ?_
  have hPc := hP.sub (ws' := [(mo, .inr (6, [.ref mw, .int (nI cnt), .ref mk, .ref mp, .ref mz, .ref me, .ref mtb, .ref my, .ref mx, .ref mu, .ref mn, .ref mg, .int hf, .int fro, .ref mf, .int (nI fsz), .ref mi, .int (nI isz), .int z2_2, .ref mh, .ref mv, .int (nI rk), .long lf, .long lo, .ref ms])), (mk, .inl (cA 0, 4, .inl kf)), (my, .inl (cA 1, 128, .inr (.inl syf)))]) [1, 2, 0] rfl
  refine kq_csl (va_runV (As := [.int (nI j), .long (rs_row K P seed wN x)]) (rest := []) ⟨hx, hb, hml, hown, hts⟩ (c_M_all l dC dI cA mo mw mk mp mz me mtb my mx mu mn mg mf mi mh mv ms cnt hf fro fsz isz z2_2 rk lf lo kf syf j K (rs_row K P seed wN x) (by first | assumption | omega) (by first | assumption | omega) (by first | assumption | omega)) (cwV 2 hts (kg_V tb_345 tb_346 tb_347 tb_318 tb_344) rfl rfl rfl (by decide +kernel) ⟨Nat.le_of_ble_eq_true rfl, Nat.le_of_ble_eq_true rfl⟩) (kpv_ro hK hN hPc (ci := 6) (q0 := 0) rfl rfl rfl) rfl rfl hl.1 rfl (lv_room (Nat.le_of_ble_eq_true rfl)) dX6_output_10 ⟨Nat.le_of_ble_eq_true rfl, Nat.le_of_ble_eq_true rfl⟩) (fun r_3 hr_3 => ?_)
  refine kt_l (y := rs_all syf j (rs_row K P seed wN x) K) hr_3 ?_
  refine lv_lstore (lv' := [(5, .long (rs_all syf j (rs_row K P seed wN x) K)), (3, .long (rs_row K P seed wN x)), (0, .ref mo), (1, .int (nI j)), (2, .int x)]) hx hb dX6_output_13 hl (by decide) rfl (fun ls hl => ?_)
  refine lv_iconst (v := 0) hx hb dX6_output_15 (by decide) ?_
  refine lv_istore (lv' := [(7, .int 0), (5, .long (rs_all syf j (rs_row K P seed wN x) K)), (3, .long (rs_row K P seed wN x)), (0, .ref mo), (1, .int (nI j)), (2, .int x)]) hx hb dX6_output_16 hl (by decide) rfl (fun ls hl => ?_)
  have hi_hk : 0 ≤ P := (by omega)
  have hi_hy9 : (rs_all syf j (rs_row K P seed wN x) K) = rs_out syf j K seed (rs_row K P seed wN x) 0 := rfl
  have hl9 : lv_has ls 8 [(7, .int (nI 0)), (5, .long (rs_all syf j (rs_row K P seed wN x) K)), (3, .long (rs_row K P seed wN x)), (0, .ref mo), (1, .int (nI j)), (2, .int x)] := lv_sub hl [0, 1, 2, 3, 4, 5] rfl
  refine k_loop3 (I := fun (k : Nat) (z1 : Int32) (y : Int64) (H : Heap) (locs : List Loc) (ls : Array Slot) => (k ≤ P) ∧ (y = rs_out syf j K seed (rs_row K P seed wN x) k) ∧ lv_has ls 8 [(7, .int (nI k)), (5, .long y), (3, .long (rs_row K P seed wN x)), (0, .ref mo), (1, .int (nI j)), (2, .int x)] ∧ va_P (dC, dI) vwCl [(my, .inl (cA 1, 128, .inr (.inl syf))), (mo, .inr (6, [.ref mw, .int (nI cnt), .ref mk, .ref mp, .ref mz, .ref me, .ref mtb, .ref my, .ref mx, .ref mu, .ref mn, .ref mg, .int hf, .int fro, .ref mf, .int (nI fsz), .ref mi, .int (nI isz), .int z1, .ref mh, .ref mv, .int (nI rk), .long lf, .long lo, .ref ms])), (mk, .inl (cA 0, 4, .inl kf)), (mp, .inl (cA 0, 4, .inl pf)), (me, .inl (cA 0, 4, .inl ef)), (mtb, .inl (cA 0, 52, .inl tbf))] H ∧ va_D A [(my, .inl (cA 1, 128, .inr (.inl syf))), (mo, .inr (6, [.ref mw, .int (nI cnt), .ref mk, .ref mp, .ref mz, .ref me, .ref mtb, .ref my, .ref mx, .ref mu, .ref mn, .ref mg, .int hf, .int fro, .ref mf, .int (nI fsz), .ref mi, .int (nI isz), .int z1, .ref mh, .ref mv, .int (nI rk), .long lf, .long lo, .ref ms])), (mk, .inl (cA 0, 4, .inl kf)), (mp, .inl (cA 0, 4, .inl pf)), (me, .inl (cA 0, 4, .inl ef)), (mtb, .inl (cA 0, 52, .inl tbf))] ∧ va_S A s.heap H locs) (μ := fun k z1 y => P - k) ?_ 0 z2_2 (rs_all syf j (rs_row K P seed wN x) K) ⟨hi_hk, hi_hy9, hl9, hP, hD, hS⟩
  intro k z1 y H locs ls hI9 ih_L0
  obtain ⟨hk, hy9, hl, hP, hD, hS⟩ := hI9
  refine lv_iload hx hb dX6_output_18 (lv_at hl 0 rfl) ?_
  refine lv_aload_n hx hb dX6_output_20 rfl (lv_at hl 3 rfl) ?_
  refine va_get (D := (dC, dI)) (ci := 6) (v := .ref mp) (C := RX6) (T := TX6) (N := 25) hx hb hts inX6 hown hK hP 1 rfl rfl 3 (by decide) hk_0 (fun _ h9 => h9) rfl dX6_output_21 ?_
  refine lv_iload_n hx hb dX6_output_24 rfl (lv_at hl 4 rfl) ?_
  refine va_iald (D := (dC, dI)) hx hb hK hP 3 0 rfl rfl (vp_in_nI hj4 (by omega)) dX6_output_25 ?_
  refine kt_i (congrArg pf (nI_clamp (by omega : j < 2 ^ 31))) ?_
  refine kt_i (y := nI P) hpf ?_
  refine lv_icmp_ge (tgt := 74) hx hb dX6_output_26 (by decide) (fun c_4 => ?_) (fun c_4 => ?_)
  · have c_4 : (nI P) ≤ (nI k) := c_4
    have hk9 : P ≤ k := (ku_le (a := P) (b := k) (by omega) (by omega)).mp c_4
    refine lv_lload hx hb dX6_output_74 (lv_at hl 1 rfl) ?_
    have hP9 := hP.sub (ws' := [(mo, .inr (6, [.ref mw, .int (nI cnt), .ref mk, .ref mp, .ref mz, .ref me, .ref mtb, .ref my, .ref mx, .ref mu, .ref mn, .ref mg, .int hf, .int fro, .ref mf, .int (nI fsz), .ref mi, .int (nI isz), .int z1, .ref mh, .ref mv, .int (nI rk), .long lf, .long lo, .ref ms])), (mk, .inl (cA 0, 4, .inl kf)), (mp, .inl (cA 0, 4, .inl pf)), (me, .inl (cA 0, 4, .inl ef)), (mtb, .inl (cA 0, 52, .inl tbf)), (my, .inl (cA 1, 128, .inr (.inl syf)))]) [1, 2, 3, 4, 5, 0] rfl
    have hD9 := hD.sub (ws' := [(mo, .inr (6, [.ref mw, .int (nI cnt), .ref mk, .ref mp, .ref mz, .ref me, .ref mtb, .ref my, .ref mx, .ref mu, .ref mn, .ref mg, .int hf, .int fro, .ref mf, .int (nI fsz), .ref mi, .int (nI isz), .int z1, .ref mh, .ref mv, .int (nI rk), .long lf, .long lo, .ref ms])), (mk, .inl (cA 0, 4, .inl kf)), (mp, .inl (cA 0, 4, .inl pf)), (me, .inl (cA 0, 4, .inl ef)), (mtb, .inl (cA 0, 52, .inl tbf)), (my, .inl (cA 1, 128, .inr (.inl syf)))]) [1, 2, 3, 4, 5, 0] (by decide) rfl
    exact W.lret (v := y) hx hb hr (fun t9 ht9 hW9 => ⟨⟨y, z1, rfl, (by have e : k = P := (by omega); rw [hy9, e]), by rw [ht9]; exact hP9, hD9⟩, hS.F ht9⟩) hS.2.2 dX6_output_76
  · have c_4 : ¬ ((nI P) ≤ (nI k)) := c_4
    have hk9 : k < P := (ku_nle (a := P) (b := k) (by omega) (by omega)).mp c_4
    refine lv_lload hx hb dX6_output_29 (lv_at hl 1 rfl) ?_
    refine lv_lload_n hx hb dX6_output_31 rfl (lv_at hl 2 rfl) ?_
    refine lv_aload_n hx hb dX6_output_32 rfl (lv_at hl 3 rfl) ?_
    refine va_get (D := (dC, dI)) (ci := 6) (v := .ref mk) (C := RX6) (T := TX6) (N := 25) hx hb hts inX6 hown hK hP 1 rfl rfl 2 (by decide) hk_1 (fun _ h9 => h9) rfl dX6_output_33 ?_
    refine lv_iload_n hx hb dX6_output_36 rfl (lv_at hl 4 rfl) ?_
    refine va_iald (D := (dC, dI)) hx hb hK hP 2 0 rfl rfl (vp_in_nI hj4 (by omega)) dX6_output_37 ?_
    refine kt_i (congrArg kf (nI_clamp (by omega : j < 2 ^ 31))) ?_
    refine kt_i (y := nI K) hkf ?_
    refine lv_iload hx hb dX6_output_38 (lv_at hl 0 rfl) ?_
    refine lv_iadd hx hb dX6_output_40 ?_
    refine kt_i (y := nI (K + k)) (nI_add K k) ?_
    refine lv_lshr (v := jv_lshr (rs_row K P seed wN x) (nI (K + k))) hx hb dX6_output_41 rfl ?_
    refine lv_lconst (v := 1) hx hb dX6_output_42 (by decide) ?_
    refine lv_land hx hb dX6_output_43 ?_
    refine lv_lconst (v := 1) hx hb dX6_output_44 (by decide) ?_
    refine W.lcmp hx hb dX6_output_45 ?_
    refine lv_if_ne (tgt := 64) hx hb dX6_output_46 (by decide) (fun c_5 => ?_) (fun c_5 => ?_)
    · have c_5 : ¬ ((lg_cmp ((jv_lshr (rs_row K P seed wN x) (nI (K + k))) &&& 1) 1) = 0) := c_5
      refine lv_lconst (v := 0) hx hb dX6_output_64 (by decide) ?_
      refine lv_lxor hx hb dX6_output_65 ?_
      refine lv_lstore (lv' := [(5, .long (y ^^^ 0)), (7, .int (nI k)), (3, .long (rs_row K P seed wN x)), (0, .ref mo), (1, .int (nI j)), (2, .int x)]) hx hb dX6_output_66 hl (by decide) rfl (fun ls hl => ?_)
      refine lv_iinc (v := nI (k + 1)) (lv' := [(7, .int (nI (k + 1))), (5, .long (y ^^^ 0)), (3, .long (rs_row K P seed wN x)), (0, .ref mo), (1, .int (nI j)), (2, .int x)]) hx hb dX6_output_68 hl (k := 1) rfl (nI_succ _).symm (by decide) rfl (fun ls hl => ?_)
      refine lv_goto (tgt := 18) hx hb dX6_output_71 (by decide) ?_
      have hi_hk : (k + 1) ≤ P := (by omega)
      have hi_hy9 : (y ^^^ 0) = rs_out syf j K seed (rs_row K P seed wN x) (k + 1) := (by subst hy9; exact (if_neg c_5).symm)
      have hl9 : lv_has ls 8 [(7, .int (nI (k + 1))), (5, .long (y ^^^ 0)), (3, .long (rs_row K P seed wN x)), (0, .ref mo), (1, .int (nI j)), (2, .int x)] := lv_sub hl [0, 1, 2, 3, 4, 5] rfl
      have hP9 : va_P (dC, dI) vwCl [(my, .inl (cA 1, 128, .inr (.inl syf))), (mo, .inr (6, [.ref mw, .int (nI cnt), .ref mk, .ref mp, .ref mz, .ref me, .ref mtb, .ref my, .ref mx, .ref mu, .ref mn, .ref mg, .int hf, .int fro, .ref mf, .int (nI fsz), .ref mi, .int (nI isz), .int z1, .ref mh, .ref mv, .int (nI rk), .long lf, .long lo, .ref ms])), (mk, .inl (cA 0, 4, .inl kf)), (mp, .inl (cA 0, 4, .inl pf)), (me, .inl (cA 0, 4, .inl ef)), (mtb, .inl (cA 0, 52, .inl tbf))] H := hP
      have hD9 : va_D A [(my, .inl (cA 1, 128, .inr (.inl syf))), (mo, .inr (6, [.ref mw, .int (nI cnt), .ref mk, .ref mp, .ref mz, .ref me, .ref mtb, .ref my, .ref mx, .ref mu, .ref mn, .ref mg, .int hf, .int fro, .ref mf, .int (nI fsz), .ref mi, .int (nI isz), .int z1, .ref mh, .ref mv, .int (nI rk), .long lf, .long lo, .ref ms])), (mk, .inl (cA 0, 4, .inl kf)), (mp, .inl (cA 0, 4, .inl pf)), (me, .inl (cA 0, 4, .inl ef)), (mtb, .inl (cA 0, 52, .inl tbf))] := hD
      exact ih_L0 (k + 1) z1 (y ^^^ 0) H locs ls ⟨hi_hk, hi_hy9, hl9, hP9, hD9, hS⟩ (by show P - (k + 1) < P - k; omega)
    · have c_5 : (lg_cmp ((jv_lshr (rs_row K P seed wN x) (nI (K + k))) &&& 1) 1) = 0 := c_5
      refine lv_aload_n hx hb dX6_output_49 rfl (lv_at hl 3 rfl) ?_
      refine lv_iload_n hx hb dX6_output_50 rfl (lv_at hl 4 rfl) ?_
      refine lv_aload_n hx hb dX6_output_51 rfl (lv_at hl 3 rfl) ?_
      refine lv_iload_n hx hb dX6_output_52 rfl (lv_at hl 4 rfl) ?_
      refine lv_iload hx hb dX6_output_53 (lv_at hl 0 rfl) ?_
      have hPc := hP.sub (ws' := [(mo, .inr (6, [.ref mw, .int (nI cnt), .ref mk, .ref mp, .ref mz, .ref me, .ref mtb, .ref my, .ref mx, .ref mu, .ref mn, .ref mg, .int hf, .int fro, .ref mf, .int (nI fsz), .ref mi, .int (nI isz), .int z1, .ref mh, .ref mv, .int (nI rk), .long lf, .long lo, .ref ms])), (mk, .inl (cA 0, 4, .inl kf)), (me, .inl (cA 0, 4, .inl ef))]) [1, 2, 4] rfl
      have hDc := hD.sub (ws' := [(mo, .inr (6, [.ref mw, .int (nI cnt), .ref mk, .ref mp, .ref mz, .ref me, .ref mtb, .ref my, .ref mx, .ref mu, .ref mn, .ref mg, .int hf, .int fro, .ref mf, .int (nI fsz), .ref mi, .int (nI isz), .int z1, .ref mh, .ref mv, .int (nI rk), .long lf, .long lo, .ref ms])), (mk, .inl (cA 0, 4, .inl kf)), (me, .inl (cA 0, 4, .inl ef))]) [1, 2, 4] (by decide) rfl
      have hFc := va_free (wc := [(mo, .inr (6, [.ref mw, .int (nI cnt), .ref mk, .ref mp, .ref mz, .ref me, .ref mtb, .ref my, .ref mx, .ref mu, .ref mn, .ref mg, .int hf, .int fro, .ref mf, .int (nI fsz), .ref mi, .int (nI isz), .int z1, .ref mh, .ref mv, .int (nI rk), .long lf, .long lo, .ref ms])), (mk, .inl (cA 0, 4, .inl kf)), (me, .inl (cA 0, 4, .inl ef))]) hD hS hA [1, 2, 4] rfl
      refine va_calll (va_runV (As := [.int (nI j), .int (nI k)]) (rest := [.int (nI j), .ref mo, .long y]) ⟨hx, hb, hml, hown, hts⟩ (c_M_sumOf l dC dI cA H.size mo mw mk mp mz me mtb my mx mu mn mg mf mi mh mv ms cnt hf fro fsz isz z1 rk lf lo kf ef j K seed (nI k) (by first | assumption | omega) (by first | assumption | omega) (by first | assumption | omega) (by first | assumption | omega)) (cwV 2 hts (kg_V tb_341 tb_342 tb_343 tb_318 tb_340) rfl rfl rfl (by decide +kernel) ⟨Nat.le_of_ble_eq_true rfl, Nat.le_of_ble_eq_true rfl⟩) (kpv_rw hK hN hPc hDc (ci := 6) (q0 := 0) rfl rfl rfl) rfl rfl hl.1 rfl (lv_room (Nat.le_of_ble_eq_true rfl)) dX6_output_55 ⟨Nat.le_of_ble_eq_true rfl, Nat.le_of_ble_eq_true rfl⟩) hS (fun q _ h => hFc q h) hFc (fun r_6 u9 t9 H1 locs ht9 hvm9 hr_6 hB hz1 hk1 hS => ?_)
      obtain ⟨z2_7, rfl⟩ : ∃ z, z = u9 := ⟨_, rfl⟩
      obtain ⟨hP1, hD1⟩ := hB
      rw [ht9] at hP1
      obtain ⟨hP, hD⟩ := va_join (wr := [(my, .inl (cA 1, 128, .inr (.inl syf))), (mp, .inl (cA 0, 4, .inl pf)), (mtb, .inl (cA 0, 52, .inl tbf))]) (w1 := [(mo, .inr (6, [.ref mw, .int (nI cnt), .ref mk, .ref mp, .ref mz, .ref me, .ref mtb, .ref my, .ref mx, .ref mu, .ref mn, .ref mg, .int hf, .int fro, .ref mf, .int (nI fsz), .ref mi, .int (nI isz), .int z2_7, .ref mh, .ref mv, .int (nI rk), .long lf, .long lo, .ref ms])), (mk, .inl (cA 0, 4, .inl kf)), (me, .inl (cA 0, 4, .inl ef))]) hP hD [1, 2, 4] [0, 3, 5] rfl rfl (by decide) (by decide) hk1 hFc hP1 hD1
      generalize H1 = H at hP hS ⊢
      have hP : va_P (dC, dI) vwCl [(my, .inl (cA 1, 128, .inr (.inl syf))), (mp, .inl (cA 0, 4, .inl pf)), (mtb, .inl (cA 0, 52, .inl tbf)), (mo, .inr (6, [.ref mw, .int (nI cnt), .ref mk, .ref mp, .ref mz, .ref me, .ref mtb, .ref my, .ref mx, .ref mu, .ref mn, .ref mg, .int hf, .int fro, .ref mf, .int (nI fsz), .ref mi, .int (nI isz), .int z2_7, .ref mh, .ref mv, .int (nI rk), .long lf, .long lo, .ref ms])), (mk, .inl (cA 0, 4, .inl kf)), (me, .inl (cA 0, 4, .inl ef))] H := hP
      have hD : va_D A [(my, .inl (cA 1, 128, .inr (.inl syf))), (mp, .inl (cA 0, 4, .inl pf)), (mtb, .inl (cA 0, 52, .inl tbf)), (mo, .inr (6, [.ref mw, .int (nI cnt), .ref mk, .ref mp, .ref mz, .ref me, .ref mtb, .ref my, .ref mx, .ref mu, .ref mn, .ref mg, .int hf, .int fro, .ref mf, .int (nI fsz), .ref mi, .int (nI isz), .int z2_7, .ref mh, .ref mv, .int (nI rk), .long lf, .long lo, .ref ms])), (mk, .inl (cA 0, 4, .inl kf)), (me, .inl (cA 0, 4, .inl ef))] := hD
      refine kt_l (y := rs_sb (seed + (40503 * ((nI k) + 1))) K) hr_6 ?_
      have hPc := hP.sub (ws' := [(mo, .inr (6, [.ref mw, .int (nI cnt), .ref mk, .ref mp, .ref mz, .ref me, .ref mtb, .ref my, .ref mx, .ref mu, .ref mn, .ref mg, .int hf, .int fro, .ref mf, .int (nI fsz), .ref mi, .int (nI isz), .int z2_7, .ref mh, .ref mv, .int (nI rk), .long lf, .long lo, .ref ms])), (mk, .inl (cA 0, 4, .inl kf)), (my, .inl (cA 1, 128, .inr (.inl syf)))]) [3, 4, 0] rfl
      refine kq_csl (va_runV (As := [.int (nI j), .long (rs_sb (seed + (40503 * ((nI k) + 1))) K)]) (rest := [.long y]) ⟨hx, hb, hml, hown, hts⟩ (c_M_all l dC dI cA mo mw mk mp mz me mtb my mx mu mn mg mf mi mh mv ms cnt hf fro fsz isz z2_7 rk lf lo kf syf j K (rs_sb (seed + (40503 * ((nI k) + 1))) K) (by first | assumption | omega) (by first | assumption | omega) (by first | assumption | omega)) (cwV 2 hts (kg_V tb_345 tb_346 tb_347 tb_318 tb_344) rfl rfl rfl (by decide +kernel) ⟨Nat.le_of_ble_eq_true rfl, Nat.le_of_ble_eq_true rfl⟩) (kpv_ro hK hN hPc (ci := 6) (q0 := 0) rfl rfl rfl) rfl rfl hl.1 rfl (lv_room (Nat.le_of_ble_eq_true rfl)) dX6_output_58 ⟨Nat.le_of_ble_eq_true rfl, Nat.le_of_ble_eq_true rfl⟩) (fun r_8 hr_8 => ?_)
      refine kt_l (y := rs_all syf j (rs_sb (seed + (40503 * ((nI k) + 1))) K) K) hr_8 ?_
      refine lv_goto (tgt := 65) hx hb dX6_output_61 (by decide) ?_
      refine lv_lxor hx hb dX6_output_65 ?_
      refine lv_lstore (lv' := [(5, .long (y ^^^ (rs_all syf j (rs_sb (seed + (40503 * ((nI k) + 1))) K) K))), (7, .int (nI k)), (3, .long (rs_row K P seed wN x)), (0, .ref mo), (1, .int (nI j)), (2, .int x)]) hx hb dX6_output_66 hl (by decide) rfl (fun ls hl => ?_)
      refine lv_iinc (v := nI (k + 1)) (lv' := [(7, .int (nI (k + 1))), (5, .long (y ^^^ (rs_all syf j (rs_sb (seed + (40503 * ((nI k) + 1))) K) K))), (3, .long (rs_row K P seed wN x)), (0, .ref mo), (1, .int (nI j)), (2, .int x)]) hx hb dX6_output_68 hl (k := 1) rfl (nI_succ _).symm (by decide) rfl (fun ls hl => ?_)
      refine lv_goto (tgt := 18) hx hb dX6_output_71 (by decide) ?_
      have hi_hk : (k + 1) ≤ P := (by omega)
      have hi_hy9 : (y ^^^ (rs_all syf j (rs_sb (seed + (40503 * ((nI k) + 1))) K) K)) = rs_out syf j K seed (rs_row K P seed wN x) (k + 1) := (by subst hy9; exact (if_pos c_5).symm)
      have hl9 : lv_has ls 8 [(7, .int (nI (k + 1))), (5, .long (y ^^^ (rs_all syf j (rs_sb (seed + (40503 * ((nI k) + 1))) K) K))), (3, .long (rs_row K P seed wN x)), (0, .ref mo), (1, .int (nI j)), (2, .int x)] := lv_sub hl [0, 1, 2, 3, 4, 5] rfl
      have hP9 : va_P (dC, dI) vwCl [(my, .inl (cA 1, 128, .inr (.inl syf))), (mo, .inr (6, [.ref mw, .int (nI cnt), .ref mk, .ref mp, .ref mz, .ref me, .ref mtb, .ref my, .ref mx, .ref mu, .ref mn, .ref mg, .int hf, .int fro, .ref mf, .int (nI fsz), .ref mi, .int (nI isz), .int z2_7, .ref mh, .ref mv, .int (nI rk), .long lf, .long lo, .ref ms])), (mk, .inl (cA 0, 4, .inl kf)), (mp, .inl (cA 0, 4, .inl pf)), (me, .inl (cA 0, 4, .inl ef)), (mtb, .inl (cA 0, 52, .inl tbf))] H := hP.sub [0, 3, 4, 1, 5, 2] rfl
      have hD9 : va_D A [(my, .inl (cA 1, 128, .inr (.inl syf))), (mo, .inr (6, [.ref mw, .int (nI cnt), .ref mk, .ref mp, .ref mz, .ref me, .ref mtb, .ref my, .ref mx, .ref mu, .ref mn, .ref mg, .int hf, .int fro, .ref mf, .int (nI fsz), .ref mi, .int (nI isz), .int z2_7, .ref mh, .ref mv, .int (nI rk), .long lf, .long lo, .ref ms])), (mk, .inl (cA 0, 4, .inl kf)), (mp, .inl (cA 0, 4, .inl pf)), (me, .inl (cA 0, 4, .inl ef)), (mtb, .inl (cA 0, 52, .inl tbf))] := hD.sub [0, 3, 4, 1, 5, 2] (by decide) rfl
      exact ih_L0 (k + 1) z2_7 (y ^^^ (rs_all syf j (rs_sb (seed + (40503 * ((nI k) + 1))) K) K)) H locs ls ⟨hi_hk, hi_hy9, hl9, hP9, hD9, hS⟩ (by show P - (k + 1) < P - k; omega)
set_option maxHeartbeats 4000000 in
set_option maxRecDepth 100000 in
theorem c_M_row_bad (l : Launch) (dC : Nat → ClassId) (dI : Nat → Nat → Nat) (cA : Nat → ClassId) (mo : Nat) (mw : Nat) (mk : Nat) (mp : Nat) (mz : Nat) (me : Nat) (mtb : Nat) (my : Nat) (mx : Nat) (mu : Nat) (mn : Nat) (mg : Nat) (mf : Nat) (mi : Nat) (mh : Nat) (mv : Nat) (ms : Nat) (cnt : Nat) (hf : Int32) (fro : Int32) (fsz : Nat) (isz : Nat) (z : Int32) (rk : Nat) (lf : Int64) (lo : Int64) (j : Nat) (x : Int32) (hj4 : j < 4) (hjc : j < cnt) (hc4 : cnt ≤ 4) (hbad : sp_isnum x = 0) : Met l yX6_row (kw_X6_row) ({ frames := 1, cells := 0, slots := 0, locals := 21 }) (va_Pc [.ref mo, .int (nI j), .int x] (fun U => kRO dC dI cA [(mo, .inr (6, [.ref mw, .int (nI cnt), .ref mk, .ref mp, .ref mz, .ref me, .ref mtb, .ref my, .ref mx, .ref mu, .ref mn, .ref mg, .int hf, .int fro, .ref mf, .int (nI fsz), .ref mi, .int (nI isz), .int z, .ref mh, .ref mv, .int (nI rk), .long lf, .long lo, .ref ms]))] U)) (vp_Sl (fun r => r = (-2))) 0 0 (fun _ => False) := by
  refine Met.ofW (cc := cX6_row) (maxL := 3) (ret := (some .long)) (by decide) rfl ?_
  intro p e s m args below meth c s₁ B hml hv
  obtain ⟨rfl, hP, hK, hN⟩ := hv
  have hx := B.exec
  have hb := B.bytes
  have hr := B.returns
  have hts0 := atoms_spec (ws := (kw_X6_row)) B.pre
  have hts : ∀ w ∈ TB, w.before _ s = true := fun w h => hts0 w (List.mem_cons_of_mem _ h)
  have hown : s.vm.findClass RX6 = some m.cls := findClass_of_methodNamed B.named
  have hlocks := B.notSynchronized
  have hk_0 := hts (.constantLong RX6 98 (-2)) tb_352
  have hk_1 := hts (.constant RX6 97 65535) tb_353
  have hl := lv_entry ([.ref mo, .int (nI j), .int x]) (n := 3) (Nat.le_of_ble_eq_true rfl)
  rw [lg_entry_eq]
  generalize (lg_sl ([.ref mo, .int (nI j), .int x]) ++ List.replicate (3 - (lg_sl ([.ref mo, .int (nI j), .int x])).length) Slot.unset).toArray = ls at hl ⊢
  have hl : lv_has ls 3 [(0, .ref mo), (1, .int (nI j)), (2, .int x)] := hl
  refine lv_aload_n hx hb dX6_row_0 rfl (lv_at hl 0 rfl) ?_
  refine lv_iload_n hx hb dX6_row_1 rfl (lv_at hl 1 rfl) ?_
  have hPc := hP.sub (ws' := [(mo, .inr (6, [.ref mw, .int (nI cnt), .ref mk, .ref mp, .ref mz, .ref me, .ref mtb, .ref my, .ref mx, .ref mu, .ref mn, .ref mg, .int hf, .int fro, .ref mf, .int (nI fsz), .ref mi, .int (nI isz), .int z, .ref mh, .ref mv, .int (nI rk), .long lf, .long lo, .ref ms]))]) [0] rfl
  refine kq_csi (va_runV (As := [.int (nI j)]) (rest := []) ⟨hx, hb, hml, hown, hts⟩ (c_M_isSource l dC dI cA mo mw mk mp mz me mtb my mx mu mn mg mf mi mh mv ms cnt hf fro fsz isz z rk lf lo (nI j)) (cwV 1 hts (kg_V tb_315 tb_316 tb_317 tb_318 tb_314) rfl rfl rfl (by decide +kernel) ⟨Nat.le_of_ble_eq_true rfl, Nat.le_of_ble_eq_true rfl⟩) (kpv_ro hK hN hPc (ci := 6) (q0 := 0) rfl rfl rfl) rfl rfl hl.1 rfl (lv_room (Nat.le_of_ble_eq_true rfl)) dX6_row_2 ⟨Nat.le_of_ble_eq_true rfl, Nat.le_of_ble_eq_true rfl⟩) (fun r_1 hr_1 => ?_)
  refine kt_i (y := sp_has cnt (nI j)) hr_1 ?_
  refine lv_if_ne (tgt := 14) hx hb dX6_row_5 (by decide) (fun c_2 => ?_) (fun c_2 => ?_)
  · have c_2 : ¬ ((sp_has cnt (nI j)) = 0) := c_2
    refine lv_iload_n hx hb dX6_row_14 rfl (lv_at hl 2 rfl) ?_
    refine lv_if_lt (tgt := 24) hx hb dX6_row_15 (by decide) (fun c_3 => ?_) (fun c_3 => ?_)
    · have c_3 : x < 0 := c_3
      refine lv_ldc2 (v := (-2)) hx hb hown hk_0 dX6_row_24 ?_
      refine lv_goto (tgt := 36) hx hb dX6_row_27 (by decide) ?_
      exact W.lret (v := (-2)) hx hb hr (fun t9 ht9 hW9 => ⟨(-2), rfl, rfl, ht9⟩) (fun _ h => absurd h List.not_mem_nil) dX6_row_36
    · have c_3 : ¬ (x < 0) := c_3
      refine lv_iload_n hx hb dX6_row_18 rfl (lv_at hl 2 rfl) ?_
      refine lv_ldc (v := 65535) hx hb hown hk_1 dX6_row_19 ?_
      refine lv_icmp_le (tgt := 30) hx hb dX6_row_21 (by decide) (fun c_4 => ?_) (fun c_4 => ?_)
      · have c_4 : x ≤ 65535 := c_4
        exact absurd hbad (by unfold sp_isnum; rw [if_neg c_3, if_neg (Int32.not_lt.mpr c_4)]; decide)
      · have c_4 : ¬ (x ≤ 65535) := c_4
        refine lv_ldc2 (v := (-2)) hx hb hown hk_0 dX6_row_24 ?_
        refine lv_goto (tgt := 36) hx hb dX6_row_27 (by decide) ?_
        exact W.lret (v := (-2)) hx hb hr (fun t9 ht9 hW9 => ⟨(-2), rfl, rfl, ht9⟩) (fun _ h => absurd h List.not_mem_nil) dX6_row_36
  · have c_2 : (sp_has cnt (nI j)) = 0 := c_2
    exact absurd c_2 (sp_has_nI hjc (by omega))
set_option maxHeartbeats 4000000 in
set_option maxRecDepth 100000 in
theorem c_M_row_at (l : Launch) (dC : Nat → ClassId) (dI : Nat → Nat → Nat) (cA : Nat → ClassId) (sz : Nat) (mo : Nat) (mw : Nat) (mk : Nat) (mp : Nat) (mz : Nat) (me : Nat) (mtb : Nat) (my : Nat) (mx : Nat) (mu : Nat) (mn : Nat) (mg : Nat) (mf : Nat) (mi : Nat) (mh : Nat) (mv : Nat) (ms : Nat) (cnt : Nat) (hf : Int32) (fro : Int32) (fsz : Nat) (isz : Nat) (z : Int32) (rk : Nat) (lf : Int64) (lo : Int64) (kf : Nat → Int32) (pf : Nat → Int32) (ef : Nat → Int32) (tbf : Nat → Int32) (j : Nat) (K : Nat) (P : Nat) (seed : Int32) (wN : Nat → Nat) (xx : Nat) (hj4 : j < 4) (hjc : j < cnt) (hc4 : cnt ≤ 4) (hkf : kf j = nI K) (hpf : pf j = nI P) (hef : ef j = seed) (hK32 : K ≤ 32) (hP8 : P ≤ 8) (hK1 : 1 ≤ K) (hw : ∀ d, d < 13 → tbf (13 * j + d) = nI (wN d)) (hwb : ∀ d, d < 13 → wN d ≤ 100) (htot : 0 < rs_ws wN 12) (hxx : xx ≤ 65535) : Met l yX6_row (kw_X6_row) ({ frames := 2, cells := 0, slots := 0, locals := 52 }) (va_Pc [.ref mo, .int (nI j), .int (nI xx)] (fun U => kRW dC dI cA [(mo, .inr (6, [.ref mw, .int (nI cnt), .ref mk, .ref mp, .ref mz, .ref me, .ref mtb, .ref my, .ref mx, .ref mu, .ref mn, .ref mg, .int hf, .int fro, .ref mf, .int (nI fsz), .ref mi, .int (nI isz), .int z, .ref mh, .ref mv, .int (nI rk), .long lf, .long lo, .ref ms])), (mk, .inl (cA 0, 4, .inl kf)), (mp, .inl (cA 0, 4, .inl pf)), (me, .inl (cA 0, 4, .inl ef)), (mtb, .inl (cA 0, 52, .inl tbf))] sz U)) (va_Ql (fun r (u : Int32) => r = rs_row K P seed wN (nI xx)) (fun (u : Int32) t => kB dC dI (va_A [(mo, .inr (6, [.ref mw, .int (nI cnt), .ref mk, .ref mp, .ref mz, .ref me, .ref mtb, .ref my, .ref mx, .ref mu, .ref mn, .ref mg, .int hf, .int fro, .ref mf, .int (nI fsz), .ref mi, .int (nI isz), .int z, .ref mh, .ref mv, .int (nI rk), .long lf, .long lo, .ref ms])), (mk, .inl (cA 0, 4, .inl kf)), (mp, .inl (cA 0, 4, .inl pf)), (me, .inl (cA 0, 4, .inl ef)), (mtb, .inl (cA 0, 52, .inl tbf))] sz) [(mo, .inr (6, [.ref mw, .int (nI cnt), .ref mk, .ref mp, .ref mz, .ref me, .ref mtb, .ref my, .ref mx, .ref mu, .ref mn, .ref mg, .int hf, .int fro, .ref mf, .int (nI fsz), .ref mi, .int (nI isz), .int u, .ref mh, .ref mv, .int (nI rk), .long lf, .long lo, .ref ms])), (mk, .inl (cA 0, 4, .inl kf)), (mp, .inl (cA 0, 4, .inl pf)), (me, .inl (cA 0, 4, .inl ef)), (mtb, .inl (cA 0, 52, .inl tbf))] t) (va_A [(mo, .inr (6, [.ref mw, .int (nI cnt), .ref mk, .ref mp, .ref mz, .ref me, .ref mtb, .ref my, .ref mx, .ref mu, .ref mn, .ref mg, .int hf, .int fro, .ref mf, .int (nI fsz), .ref mi, .int (nI isz), .int z, .ref mh, .ref mv, .int (nI rk), .long lf, .long lo, .ref ms])), (mk, .inl (cA 0, 4, .inl kf)), (mp, .inl (cA 0, 4, .inl pf)), (me, .inl (cA 0, 4, .inl ef)), (mtb, .inl (cA 0, 52, .inl tbf))] sz)) 0 0 (va_A [(mo, .inr (6, [.ref mw, .int (nI cnt), .ref mk, .ref mp, .ref mz, .ref me, .ref mtb, .ref my, .ref mx, .ref mu, .ref mn, .ref mg, .int hf, .int fro, .ref mf, .int (nI fsz), .ref mi, .int (nI isz), .int z, .ref mh, .ref mv, .int (nI rk), .long lf, .long lo, .ref ms])), (mk, .inl (cA 0, 4, .inl kf)), (mp, .inl (cA 0, 4, .inl pf)), (me, .inl (cA 0, 4, .inl ef)), (mtb, .inl (cA 0, 52, .inl tbf))] sz) := by
  refine Met.ofW (cc := cX6_row) (maxL := 3) (ret := (some .long)) (by decide) rfl ?_
  intro p e s m args below meth c s₁ B hml hv
  obtain ⟨rfl, hsz, hP, hK, hN, hD0⟩ := hv
  have hx := B.exec
  have hb := B.bytes
  have hr := B.returns
  have hts0 := atoms_spec (ws := (kw_X6_row)) B.pre
  have hts : ∀ w ∈ TB, w.before _ s = true := fun w h => hts0 w (List.mem_cons_of_mem _ h)
  have hown : s.vm.findClass RX6 = some m.cls := findClass_of_methodNamed B.named
  have hlocks := B.notSynchronized
  subst hsz
  have hD := hD0.self (sz := s.heap.size)
  generalize hAe : va_A [(mo, .inr (6, [.ref mw, .int (nI cnt), .ref mk, .ref mp, .ref mz, .ref me, .ref mtb, .ref my, .ref mx, .ref mu, .ref mn, .ref mg, .int hf, .int fro, .ref mf, .int (nI fsz), .ref mi, .int (nI isz), .int z, .ref mh, .ref mv, .int (nI rk), .long lf, .long lo, .ref ms])), (mk, .inl (cA 0, 4, .inl kf)), (mp, .inl (cA 0, 4, .inl pf)), (me, .inl (cA 0, 4, .inl ef)), (mtb, .inl (cA 0, 52, .inl tbf))] s.heap.size = A at hD ⊢
  have hA : ∀ q : Nat, s.heap.size ≤ q → A q := fun q h => by rw [← hAe]; exact Or.inr h
  have hS : va_S A s.heap s.heap [] := va_S.rf
  have hk_0 := hts (.constant RX6 97 65535) tb_353
  have hl := lv_entry ([.ref mo, .int (nI j), .int (nI xx)]) (n := 3) (Nat.le_of_ble_eq_true rfl)
  rw [lg_entry_eq]
  generalize (lg_sl ([.ref mo, .int (nI j), .int (nI xx)]) ++ List.replicate (3 - (lg_sl ([.ref mo, .int (nI j), .int (nI xx)])).length) Slot.unset).toArray = ls at hl ⊢
  have hl : lv_has ls 3 [(0, .ref mo), (1, .int (nI j)), (2, .int (nI xx))] := hl
  refine lv_aload_n hx hb dX6_row_0 rfl (lv_at hl 0 rfl) ?_
  refine lv_iload_n hx hb dX6_row_1 rfl (lv_at hl 1 rfl) ?_
  have hPc := hP.sub (ws' := [(mo, .inr (6, [.ref mw, .int (nI cnt), .ref mk, .ref mp, .ref mz, .ref me, .ref mtb, .ref my, .ref mx, .ref mu, .ref mn, .ref mg, .int hf, .int fro, .ref mf, .int (nI fsz), .ref mi, .int (nI isz), .int z, .ref mh, .ref mv, .int (nI rk), .long lf, .long lo, .ref ms]))]) [0] rfl
  refine kq_csi (va_runV (As := [.int (nI j)]) (rest := []) ⟨hx, hb, hml, hown, hts⟩ (c_M_isSource l dC dI cA mo mw mk mp mz me mtb my mx mu mn mg mf mi mh mv ms cnt hf fro fsz isz z rk lf lo (nI j)) (cwV 1 hts (kg_V tb_315 tb_316 tb_317 tb_318 tb_314) rfl rfl rfl (by decide +kernel) ⟨Nat.le_of_ble_eq_true rfl, Nat.le_of_ble_eq_true rfl⟩) (kpv_ro hK hN hPc (ci := 6) (q0 := 0) rfl rfl rfl) rfl rfl hl.1 rfl (lv_room (Nat.le_of_ble_eq_true rfl)) dX6_row_2 ⟨Nat.le_of_ble_eq_true rfl, Nat.le_of_ble_eq_true rfl⟩) (fun r_1 hr_1 => ?_)
  refine kt_i (y := sp_has cnt (nI j)) hr_1 ?_
  refine lv_if_ne (tgt := 14) hx hb dX6_row_5 (by decide) (fun c_2 => ?_) (fun c_2 => ?_)
  · have c_2 : ¬ ((sp_has cnt (nI j)) = 0) := c_2
    refine lv_iload_n hx hb dX6_row_14 rfl (lv_at hl 2 rfl) ?_
    refine lv_if_lt (tgt := 24) hx hb dX6_row_15 (by decide) (fun c_3 => ?_) (fun c_3 => ?_)
    · have c_3 : (nI xx) < 0 := c_3
      exact absurd c_3 (nI_pos (by omega))
    · have c_3 : ¬ ((nI xx) < 0) := c_3
      refine lv_iload_n hx hb dX6_row_18 rfl (lv_at hl 2 rfl) ?_
      refine lv_ldc (v := 65535) hx hb hown hk_0 dX6_row_19 ?_
      refine lv_icmp_le (tgt := 30) hx hb dX6_row_21 (by decide) (fun c_4 => ?_) (fun c_4 => ?_)
      · have c_4 : (nI xx) ≤ 65535 := c_4
        refine lv_aload_n hx hb dX6_row_30 rfl (lv_at hl 0 rfl) ?_
        refine lv_iload_n hx hb dX6_row_31 rfl (lv_at hl 1 rfl) ?_
        refine lv_iload_n hx hb dX6_row_32 rfl (lv_at hl 2 rfl) ?_
        have hPc := hP.sub (ws' := [(mo, .inr (6, [.ref mw, .int (nI cnt), .ref mk, .ref mp, .ref mz, .ref me, .ref mtb, .ref my, .ref mx, .ref mu, .ref mn, .ref mg, .int hf, .int fro, .ref mf, .int (nI fsz), .ref mi, .int (nI isz), .int z, .ref mh, .ref mv, .int (nI rk), .long lf, .long lo, .ref ms])), (mk, .inl (cA 0, 4, .inl kf)), (mp, .inl (cA 0, 4, .inl pf)), (me, .inl (cA 0, 4, .inl ef)), (mtb, .inl (cA 0, 52, .inl tbf))]) [0, 1, 2, 3, 4] rfl
        have hDc := hD.sub (ws' := [(mo, .inr (6, [.ref mw, .int (nI cnt), .ref mk, .ref mp, .ref mz, .ref me, .ref mtb, .ref my, .ref mx, .ref mu, .ref mn, .ref mg, .int hf, .int fro, .ref mf, .int (nI fsz), .ref mi, .int (nI isz), .int z, .ref mh, .ref mv, .int (nI rk), .long lf, .long lo, .ref ms])), (mk, .inl (cA 0, 4, .inl kf)), (mp, .inl (cA 0, 4, .inl pf)), (me, .inl (cA 0, 4, .inl ef)), (mtb, .inl (cA 0, 52, .inl tbf))]) [0, 1, 2, 3, 4] (by decide) rfl
        have hFc := va_free (wc := [(mo, .inr (6, [.ref mw, .int (nI cnt), .ref mk, .ref mp, .ref mz, .ref me, .ref mtb, .ref my, .ref mx, .ref mu, .ref mn, .ref mg, .int hf, .int fro, .ref mf, .int (nI fsz), .ref mi, .int (nI isz), .int z, .ref mh, .ref mv, .int (nI rk), .long lf, .long lo, .ref ms])), (mk, .inl (cA 0, 4, .inl kf)), (mp, .inl (cA 0, 4, .inl pf)), (me, .inl (cA 0, 4, .inl ef)), (mtb, .inl (cA 0, 52, .inl tbf))]) hD hS hA [0, 1, 2, 3, 4] rfl
        refine va_calll (va_runV (As := [.int (nI j), .int (nI xx)]) (rest := []) ⟨hx, hb, hml, hown, hts⟩ (c_M_rowOf l dC dI cA s.heap.size mo mw mk mp mz me mtb my mx mu mn mg mf mi mh mv ms cnt hf fro fsz isz z rk lf lo kf pf ef tbf j K P seed wN (nI xx) (by first | assumption | omega) (by first | assumption | omega) (by first | assumption | omega) (by first | assumption | omega) (by first | assumption | omega) (by first | assumption | omega) (by first | assumption | omega) (by first | assumption | omega) (by first | assumption | omega) (by first | assumption | omega)) (cwV 2 hts (kg_V tb_349 tb_350 tb_351 tb_318 tb_348) rfl rfl rfl (by decide +kernel) ⟨Nat.le_of_ble_eq_true rfl, Nat.le_of_ble_eq_true rfl⟩) (kpv_rw hK hN hPc hDc (ci := 6) (q0 := 0) rfl rfl rfl) rfl rfl hl.1 rfl (lv_room (Nat.le_of_ble_eq_true rfl)) dX6_row_33 ⟨Nat.le_of_ble_eq_true rfl, Nat.le_of_ble_eq_true rfl⟩) hS (fun q _ h => hFc q h) hFc (fun r_5 u9 t9 H1 locs ht9 hvm9 hr_5 hB hz1 hk1 hS => ?_)
        obtain ⟨z2_6, rfl⟩ : ∃ z, z = u9 := ⟨_, rfl⟩
        obtain ⟨hP1, hD1⟩ := hB
        rw [ht9] at hP1
        obtain ⟨hP, hD⟩ := va_join (wr := []) (w1 := [(mo, .inr (6, [.ref mw, .int (nI cnt), .ref mk, .ref mp, .ref mz, .ref me, .ref mtb, .ref my, .ref mx, .ref mu, .ref mn, .ref mg, .int hf, .int fro, .ref mf, .int (nI fsz), .ref mi, .int (nI isz), .int z2_6, .ref mh, .ref mv, .int (nI rk), .long lf, .long lo, .ref ms])), (mk, .inl (cA 0, 4, .inl kf)), (mp, .inl (cA 0, 4, .inl pf)), (me, .inl (cA 0, 4, .inl ef)), (mtb, .inl (cA 0, 52, .inl tbf))]) hP hD [0, 1, 2, 3, 4] [] rfl rfl (by decide) (by decide) hk1 hFc hP1 hD1
        generalize H1 = H at hP hS ⊢
        have hP : va_P (dC, dI) vwCl [(mo, .inr (6, [.ref mw, .int (nI cnt), .ref mk, .ref mp, .ref mz, .ref me, .ref mtb, .ref my, .ref mx, .ref mu, .ref mn, .ref mg, .int hf, .int fro, .ref mf, .int (nI fsz), .ref mi, .int (nI isz), .int z2_6, .ref mh, .ref mv, .int (nI rk), .long lf, .long lo, .ref ms])), (mk, .inl (cA 0, 4, .inl kf)), (mp, .inl (cA 0, 4, .inl pf)), (me, .inl (cA 0, 4, .inl ef)), (mtb, .inl (cA 0, 52, .inl tbf))] H := hP
        have hD : va_D A [(mo, .inr (6, [.ref mw, .int (nI cnt), .ref mk, .ref mp, .ref mz, .ref me, .ref mtb, .ref my, .ref mx, .ref mu, .ref mn, .ref mg, .int hf, .int fro, .ref mf, .int (nI fsz), .ref mi, .int (nI isz), .int z2_6, .ref mh, .ref mv, .int (nI rk), .long lf, .long lo, .ref ms])), (mk, .inl (cA 0, 4, .inl kf)), (mp, .inl (cA 0, 4, .inl pf)), (me, .inl (cA 0, 4, .inl ef)), (mtb, .inl (cA 0, 52, .inl tbf))] := hD
        refine kt_l (y := rs_row K P seed wN (nI xx)) hr_5 ?_
        have hP9 := hP.sub (ws' := [(mo, .inr (6, [.ref mw, .int (nI cnt), .ref mk, .ref mp, .ref mz, .ref me, .ref mtb, .ref my, .ref mx, .ref mu, .ref mn, .ref mg, .int hf, .int fro, .ref mf, .int (nI fsz), .ref mi, .int (nI isz), .int z2_6, .ref mh, .ref mv, .int (nI rk), .long lf, .long lo, .ref ms])), (mk, .inl (cA 0, 4, .inl kf)), (mp, .inl (cA 0, 4, .inl pf)), (me, .inl (cA 0, 4, .inl ef)), (mtb, .inl (cA 0, 52, .inl tbf))]) [0, 1, 2, 3, 4] rfl
        have hD9 := hD.sub (ws' := [(mo, .inr (6, [.ref mw, .int (nI cnt), .ref mk, .ref mp, .ref mz, .ref me, .ref mtb, .ref my, .ref mx, .ref mu, .ref mn, .ref mg, .int hf, .int fro, .ref mf, .int (nI fsz), .ref mi, .int (nI isz), .int z2_6, .ref mh, .ref mv, .int (nI rk), .long lf, .long lo, .ref ms])), (mk, .inl (cA 0, 4, .inl kf)), (mp, .inl (cA 0, 4, .inl pf)), (me, .inl (cA 0, 4, .inl ef)), (mtb, .inl (cA 0, 52, .inl tbf))]) [0, 1, 2, 3, 4] (by decide) rfl
        exact W.lret (v := rs_row K P seed wN (nI xx)) hx hb hr (fun t9 ht9 hW9 => ⟨⟨rs_row K P seed wN (nI xx), z2_6, rfl, rfl, by rw [ht9]; exact hP9, hD9⟩, hS.F ht9⟩) hS.2.2 dX6_row_36
      · have c_4 : ¬ ((nI xx) ≤ 65535) := c_4
        exact absurd (nI_le (a := xx) (b := 65535) hxx (by omega)) c_4
  · have c_2 : (sp_has cnt (nI j)) = 0 := c_2
    exact absurd c_2 (sp_has_nI hjc (by omega))
set_option maxHeartbeats 4000000 in
set_option maxRecDepth 100000 in
theorem c_M_sumRow_bad (l : Launch) (dC : Nat → ClassId) (dI : Nat → Nat → Nat) (cA : Nat → ClassId) (mo : Nat) (mw : Nat) (mk : Nat) (mp : Nat) (mz : Nat) (me : Nat) (mtb : Nat) (my : Nat) (mx : Nat) (mu : Nat) (mn : Nat) (mg : Nat) (mf : Nat) (mi : Nat) (mh : Nat) (mv : Nat) (ms : Nat) (cnt : Nat) (hf : Int32) (fro : Int32) (fsz : Nat) (isz : Nat) (z : Int32) (rk : Nat) (lf : Int64) (lo : Int64) (pf : Nat → Int32) (j : Nat) (P : Nat) (x : Int32) (hj4 : j < 4) (hjc : j < cnt) (hc4 : cnt ≤ 4) (hpf : pf j = nI P) (hP8 : P ≤ 8) (hbad : sp_has P x = 0) : Met l yX6_sumRow (kw_X6_sumRow) ({ frames := 1, cells := 0, slots := 0, locals := 21 }) (va_Pc [.ref mo, .int (nI j), .int x] (fun U => kRO dC dI cA [(mo, .inr (6, [.ref mw, .int (nI cnt), .ref mk, .ref mp, .ref mz, .ref me, .ref mtb, .ref my, .ref mx, .ref mu, .ref mn, .ref mg, .int hf, .int fro, .ref mf, .int (nI fsz), .ref mi, .int (nI isz), .int z, .ref mh, .ref mv, .int (nI rk), .long lf, .long lo, .ref ms])), (mp, .inl (cA 0, 4, .inl pf))] U)) (vp_Sl (fun r => r = (-1))) 0 0 (fun _ => False) := by
  refine Met.ofW (cc := cX6_sumRow) (maxL := 3) (ret := (some .long)) (by decide) rfl ?_
  intro p e s m args below meth c s₁ B hml hv
  obtain ⟨rfl, hP, hK, hN⟩ := hv
  have hx := B.exec
  have hb := B.bytes
  have hr := B.returns
  have hts0 := atoms_spec (ws := (kw_X6_sumRow)) B.pre
  have hts : ∀ w ∈ TB, w.before _ s = true := fun w h => hts0 w (List.mem_cons_of_mem _ h)
  have hown : s.vm.findClass RX6 = some m.cls := findClass_of_methodNamed B.named
  have hlocks := B.notSynchronized
  have hk_0 := hts (.constantLong RX6 95 (-1)) tb_319
  have hk_1 := hts (.fieldLink RX6 16 "FountainRowsModel" "ps" "[I") tb_309
  have hl := lv_entry ([.ref mo, .int (nI j), .int x]) (n := 3) (Nat.le_of_ble_eq_true rfl)
  rw [lg_entry_eq]
  generalize (lg_sl ([.ref mo, .int (nI j), .int x]) ++ List.replicate (3 - (lg_sl ([.ref mo, .int (nI j), .int x])).length) Slot.unset).toArray = ls at hl ⊢
  have hl : lv_has ls 3 [(0, .ref mo), (1, .int (nI j)), (2, .int x)] := hl
  refine lv_aload_n hx hb dX6_sumRow_0 rfl (lv_at hl 0 rfl) ?_
  refine lv_iload_n hx hb dX6_sumRow_1 rfl (lv_at hl 1 rfl) ?_
  have hPc := hP.sub (ws' := [(mo, .inr (6, [.ref mw, .int (nI cnt), .ref mk, .ref mp, .ref mz, .ref me, .ref mtb, .ref my, .ref mx, .ref mu, .ref mn, .ref mg, .int hf, .int fro, .ref mf, .int (nI fsz), .ref mi, .int (nI isz), .int z, .ref mh, .ref mv, .int (nI rk), .long lf, .long lo, .ref ms]))]) [0] rfl
  refine kq_csi (va_runV (As := [.int (nI j)]) (rest := []) ⟨hx, hb, hml, hown, hts⟩ (c_M_isSource l dC dI cA mo mw mk mp mz me mtb my mx mu mn mg mf mi mh mv ms cnt hf fro fsz isz z rk lf lo (nI j)) (cwV 1 hts (kg_V tb_315 tb_316 tb_317 tb_318 tb_314) rfl rfl rfl (by decide +kernel) ⟨Nat.le_of_ble_eq_true rfl, Nat.le_of_ble_eq_true rfl⟩) (kpv_ro hK hN hPc (ci := 6) (q0 := 0) rfl rfl rfl) rfl rfl hl.1 rfl (lv_room (Nat.le_of_ble_eq_true rfl)) dX6_sumRow_2 ⟨Nat.le_of_ble_eq_true rfl, Nat.le_of_ble_eq_true rfl⟩) (fun r_1 hr_1 => ?_)
  refine kt_i (y := sp_has cnt (nI j)) hr_1 ?_
  refine lv_if_eq (tgt := 22) hx hb dX6_sumRow_5 (by decide) (fun c_2 => ?_) (fun c_2 => ?_)
  · have c_2 : (sp_has cnt (nI j)) = 0 := c_2
    exact absurd c_2 (sp_has_nI hjc (by omega))
  · have c_2 : ¬ ((sp_has cnt (nI j)) = 0) := c_2
    refine lv_iload_n hx hb dX6_sumRow_8 rfl (lv_at hl 2 rfl) ?_
    refine lv_if_lt (tgt := 22) hx hb dX6_sumRow_9 (by decide) (fun c_3 => ?_) (fun c_3 => ?_)
    · have c_3 : x < 0 := c_3
      refine lv_ldc2 (v := (-1)) hx hb hown hk_0 dX6_sumRow_22 ?_
      refine lv_goto (tgt := 34) hx hb dX6_sumRow_25 (by decide) ?_
      exact W.lret (v := (-1)) hx hb hr (fun t9 ht9 hW9 => ⟨(-1), rfl, rfl, ht9⟩) (fun _ h => absurd h List.not_mem_nil) dX6_sumRow_34
    · have c_3 : ¬ (x < 0) := c_3
      refine lv_iload_n hx hb dX6_sumRow_12 rfl (lv_at hl 2 rfl) ?_
      refine lv_aload_n hx hb dX6_sumRow_13 rfl (lv_at hl 0 rfl) ?_
      refine va_get (D := (dC, dI)) (ci := 6) (v := .ref mp) (C := RX6) (T := TX6) (N := 25) hx hb hts inX6 hown hK hP 0 rfl rfl 3 (by decide) hk_1 (fun _ h9 => h9) rfl dX6_sumRow_14 ?_
      refine lv_iload_n hx hb dX6_sumRow_17 rfl (lv_at hl 1 rfl) ?_
      refine va_iald (D := (dC, dI)) hx hb hK hP 1 0 rfl rfl (vp_in_nI hj4 (by omega)) dX6_sumRow_18 ?_
      refine kt_i (congrArg pf (nI_clamp (by omega : j < 2 ^ 31))) ?_
      refine kt_i (y := nI P) hpf ?_
      refine lv_icmp_lt (tgt := 28) hx hb dX6_sumRow_19 (by decide) (fun c_4 => ?_) (fun c_4 => ?_)
      · have c_4 : x < (nI P) := c_4
        exact absurd hbad (sp_has_of c_3 c_4)
      · have c_4 : ¬ (x < (nI P)) := c_4
        refine lv_ldc2 (v := (-1)) hx hb hown hk_0 dX6_sumRow_22 ?_
        refine lv_goto (tgt := 34) hx hb dX6_sumRow_25 (by decide) ?_
        exact W.lret (v := (-1)) hx hb hr (fun t9 ht9 hW9 => ⟨(-1), rfl, rfl, ht9⟩) (fun _ h => absurd h List.not_mem_nil) dX6_sumRow_34
set_option maxHeartbeats 4000000 in
set_option maxRecDepth 100000 in
theorem c_M_sumRow_at (l : Launch) (dC : Nat → ClassId) (dI : Nat → Nat → Nat) (cA : Nat → ClassId) (sz : Nat) (mo : Nat) (mw : Nat) (mk : Nat) (mp : Nat) (mz : Nat) (me : Nat) (mtb : Nat) (my : Nat) (mx : Nat) (mu : Nat) (mn : Nat) (mg : Nat) (mf : Nat) (mi : Nat) (mh : Nat) (mv : Nat) (ms : Nat) (cnt : Nat) (hf : Int32) (fro : Int32) (fsz : Nat) (isz : Nat) (z : Int32) (rk : Nat) (lf : Int64) (lo : Int64) (kf : Nat → Int32) (pf : Nat → Int32) (ef : Nat → Int32) (j : Nat) (K : Nat) (P : Nat) (seed : Int32) (ii : Nat) (hj4 : j < 4) (hjc : j < cnt) (hc4 : cnt ≤ 4) (hkf : kf j = nI K) (hpf : pf j = nI P) (hef : ef j = seed) (hK32 : K ≤ 32) (hP8 : P ≤ 8) (hii : ii < P) : Met l yX6_sumRow (kw_X6_sumRow) ({ frames := 2, cells := 0, slots := 0, locals := 45 }) (va_Pc [.ref mo, .int (nI j), .int (nI ii)] (fun U => kRW dC dI cA [(mo, .inr (6, [.ref mw, .int (nI cnt), .ref mk, .ref mp, .ref mz, .ref me, .ref mtb, .ref my, .ref mx, .ref mu, .ref mn, .ref mg, .int hf, .int fro, .ref mf, .int (nI fsz), .ref mi, .int (nI isz), .int z, .ref mh, .ref mv, .int (nI rk), .long lf, .long lo, .ref ms])), (mk, .inl (cA 0, 4, .inl kf)), (mp, .inl (cA 0, 4, .inl pf)), (me, .inl (cA 0, 4, .inl ef))] sz U)) (va_Ql (fun r (u : Int32) => r = rs_sb (seed + (40503 * (nI ii + 1))) K) (fun (u : Int32) t => kB dC dI (va_A [(mo, .inr (6, [.ref mw, .int (nI cnt), .ref mk, .ref mp, .ref mz, .ref me, .ref mtb, .ref my, .ref mx, .ref mu, .ref mn, .ref mg, .int hf, .int fro, .ref mf, .int (nI fsz), .ref mi, .int (nI isz), .int z, .ref mh, .ref mv, .int (nI rk), .long lf, .long lo, .ref ms])), (mk, .inl (cA 0, 4, .inl kf)), (mp, .inl (cA 0, 4, .inl pf)), (me, .inl (cA 0, 4, .inl ef))] sz) [(mo, .inr (6, [.ref mw, .int (nI cnt), .ref mk, .ref mp, .ref mz, .ref me, .ref mtb, .ref my, .ref mx, .ref mu, .ref mn, .ref mg, .int hf, .int fro, .ref mf, .int (nI fsz), .ref mi, .int (nI isz), .int u, .ref mh, .ref mv, .int (nI rk), .long lf, .long lo, .ref ms])), (mk, .inl (cA 0, 4, .inl kf)), (mp, .inl (cA 0, 4, .inl pf)), (me, .inl (cA 0, 4, .inl ef))] t) (va_A [(mo, .inr (6, [.ref mw, .int (nI cnt), .ref mk, .ref mp, .ref mz, .ref me, .ref mtb, .ref my, .ref mx, .ref mu, .ref mn, .ref mg, .int hf, .int fro, .ref mf, .int (nI fsz), .ref mi, .int (nI isz), .int z, .ref mh, .ref mv, .int (nI rk), .long lf, .long lo, .ref ms])), (mk, .inl (cA 0, 4, .inl kf)), (mp, .inl (cA 0, 4, .inl pf)), (me, .inl (cA 0, 4, .inl ef))] sz)) 0 0 (va_A [(mo, .inr (6, [.ref mw, .int (nI cnt), .ref mk, .ref mp, .ref mz, .ref me, .ref mtb, .ref my, .ref mx, .ref mu, .ref mn, .ref mg, .int hf, .int fro, .ref mf, .int (nI fsz), .ref mi, .int (nI isz), .int z, .ref mh, .ref mv, .int (nI rk), .long lf, .long lo, .ref ms])), (mk, .inl (cA 0, 4, .inl kf)), (mp, .inl (cA 0, 4, .inl pf)), (me, .inl (cA 0, 4, .inl ef))] sz) := by
  refine Met.ofW (cc := cX6_sumRow) (maxL := 3) (ret := (some .long)) (by decide) rfl ?_
  intro p e s m args below meth c s₁ B hml hv
  obtain ⟨rfl, hsz, hP, hK, hN, hD0⟩ := hv
  have hx := B.exec
  have hb := B.bytes
  have hr := B.returns
  have hts0 := atoms_spec (ws := (kw_X6_sumRow)) B.pre
  have hts : ∀ w ∈ TB, w.before _ s = true := fun w h => hts0 w (List.mem_cons_of_mem _ h)
  have hown : s.vm.findClass RX6 = some m.cls := findClass_of_methodNamed B.named
  have hlocks := B.notSynchronized
  subst hsz
  have hD := hD0.self (sz := s.heap.size)
  generalize hAe : va_A [(mo, .inr (6, [.ref mw, .int (nI cnt), .ref mk, .ref mp, .ref mz, .ref me, .ref mtb, .ref my, .ref mx, .ref mu, .ref mn, .ref mg, .int hf, .int fro, .ref mf, .int (nI fsz), .ref mi, .int (nI isz), .int z, .ref mh, .ref mv, .int (nI rk), .long lf, .long lo, .ref ms])), (mk, .inl (cA 0, 4, .inl kf)), (mp, .inl (cA 0, 4, .inl pf)), (me, .inl (cA 0, 4, .inl ef))] s.heap.size = A at hD ⊢
  have hA : ∀ q : Nat, s.heap.size ≤ q → A q := fun q h => by rw [← hAe]; exact Or.inr h
  have hS : va_S A s.heap s.heap [] := va_S.rf
  have hk_0 := hts (.fieldLink RX6 16 "FountainRowsModel" "ps" "[I") tb_309
  have hl := lv_entry ([.ref mo, .int (nI j), .int (nI ii)]) (n := 3) (Nat.le_of_ble_eq_true rfl)
  rw [lg_entry_eq]
  generalize (lg_sl ([.ref mo, .int (nI j), .int (nI ii)]) ++ List.replicate (3 - (lg_sl ([.ref mo, .int (nI j), .int (nI ii)])).length) Slot.unset).toArray = ls at hl ⊢
  have hl : lv_has ls 3 [(0, .ref mo), (1, .int (nI j)), (2, .int (nI ii))] := hl
  refine lv_aload_n hx hb dX6_sumRow_0 rfl (lv_at hl 0 rfl) ?_
  refine lv_iload_n hx hb dX6_sumRow_1 rfl (lv_at hl 1 rfl) ?_
  have hPc := hP.sub (ws' := [(mo, .inr (6, [.ref mw, .int (nI cnt), .ref mk, .ref mp, .ref mz, .ref me, .ref mtb, .ref my, .ref mx, .ref mu, .ref mn, .ref mg, .int hf, .int fro, .ref mf, .int (nI fsz), .ref mi, .int (nI isz), .int z, .ref mh, .ref mv, .int (nI rk), .long lf, .long lo, .ref ms]))]) [0] rfl
  refine kq_csi (va_runV (As := [.int (nI j)]) (rest := []) ⟨hx, hb, hml, hown, hts⟩ (c_M_isSource l dC dI cA mo mw mk mp mz me mtb my mx mu mn mg mf mi mh mv ms cnt hf fro fsz isz z rk lf lo (nI j)) (cwV 1 hts (kg_V tb_315 tb_316 tb_317 tb_318 tb_314) rfl rfl rfl (by decide +kernel) ⟨Nat.le_of_ble_eq_true rfl, Nat.le_of_ble_eq_true rfl⟩) (kpv_ro hK hN hPc (ci := 6) (q0 := 0) rfl rfl rfl) rfl rfl hl.1 rfl (lv_room (Nat.le_of_ble_eq_true rfl)) dX6_sumRow_2 ⟨Nat.le_of_ble_eq_true rfl, Nat.le_of_ble_eq_true rfl⟩) (fun r_1 hr_1 => ?_)
  refine kt_i (y := sp_has cnt (nI j)) hr_1 ?_
  refine lv_if_eq (tgt := 22) hx hb dX6_sumRow_5 (by decide) (fun c_2 => ?_) (fun c_2 => ?_)
  · have c_2 : (sp_has cnt (nI j)) = 0 := c_2
    exact absurd c_2 (sp_has_nI hjc (by omega))
  · have c_2 : ¬ ((sp_has cnt (nI j)) = 0) := c_2
    refine lv_iload_n hx hb dX6_sumRow_8 rfl (lv_at hl 2 rfl) ?_
    refine lv_if_lt (tgt := 22) hx hb dX6_sumRow_9 (by decide) (fun c_3 => ?_) (fun c_3 => ?_)
    · have c_3 : (nI ii) < 0 := c_3
      exact absurd c_3 (nI_pos (by omega))
    · have c_3 : ¬ ((nI ii) < 0) := c_3
      refine lv_iload_n hx hb dX6_sumRow_12 rfl (lv_at hl 2 rfl) ?_
      refine lv_aload_n hx hb dX6_sumRow_13 rfl (lv_at hl 0 rfl) ?_
      refine va_get (D := (dC, dI)) (ci := 6) (v := .ref mp) (C := RX6) (T := TX6) (N := 25) hx hb hts inX6 hown hK hP 0 rfl rfl 3 (by decide) hk_0 (fun _ h9 => h9) rfl dX6_sumRow_14 ?_
      refine lv_iload_n hx hb dX6_sumRow_17 rfl (lv_at hl 1 rfl) ?_
      refine va_iald (D := (dC, dI)) hx hb hK hP 2 0 rfl rfl (vp_in_nI hj4 (by omega)) dX6_sumRow_18 ?_
      refine kt_i (congrArg pf (nI_clamp (by omega : j < 2 ^ 31))) ?_
      refine kt_i (y := nI P) hpf ?_
      refine lv_icmp_lt (tgt := 28) hx hb dX6_sumRow_19 (by decide) (fun c_4 => ?_) (fun c_4 => ?_)
      · have c_4 : (nI ii) < (nI P) := c_4
        refine lv_aload_n hx hb dX6_sumRow_28 rfl (lv_at hl 0 rfl) ?_
        refine lv_iload_n hx hb dX6_sumRow_29 rfl (lv_at hl 1 rfl) ?_
        refine lv_iload_n hx hb dX6_sumRow_30 rfl (lv_at hl 2 rfl) ?_
        have hPc := hP.sub (ws' := [(mo, .inr (6, [.ref mw, .int (nI cnt), .ref mk, .ref mp, .ref mz, .ref me, .ref mtb, .ref my, .ref mx, .ref mu, .ref mn, .ref mg, .int hf, .int fro, .ref mf, .int (nI fsz), .ref mi, .int (nI isz), .int z, .ref mh, .ref mv, .int (nI rk), .long lf, .long lo, .ref ms])), (mk, .inl (cA 0, 4, .inl kf)), (me, .inl (cA 0, 4, .inl ef))]) [0, 1, 3] rfl
        have hDc := hD.sub (ws' := [(mo, .inr (6, [.ref mw, .int (nI cnt), .ref mk, .ref mp, .ref mz, .ref me, .ref mtb, .ref my, .ref mx, .ref mu, .ref mn, .ref mg, .int hf, .int fro, .ref mf, .int (nI fsz), .ref mi, .int (nI isz), .int z, .ref mh, .ref mv, .int (nI rk), .long lf, .long lo, .ref ms])), (mk, .inl (cA 0, 4, .inl kf)), (me, .inl (cA 0, 4, .inl ef))]) [0, 1, 3] (by decide) rfl
        have hFc := va_free (wc := [(mo, .inr (6, [.ref mw, .int (nI cnt), .ref mk, .ref mp, .ref mz, .ref me, .ref mtb, .ref my, .ref mx, .ref mu, .ref mn, .ref mg, .int hf, .int fro, .ref mf, .int (nI fsz), .ref mi, .int (nI isz), .int z, .ref mh, .ref mv, .int (nI rk), .long lf, .long lo, .ref ms])), (mk, .inl (cA 0, 4, .inl kf)), (me, .inl (cA 0, 4, .inl ef))]) hD hS hA [0, 1, 3] rfl
        refine va_calll (va_runV (As := [.int (nI j), .int (nI ii)]) (rest := []) ⟨hx, hb, hml, hown, hts⟩ (c_M_sumOf l dC dI cA s.heap.size mo mw mk mp mz me mtb my mx mu mn mg mf mi mh mv ms cnt hf fro fsz isz z rk lf lo kf ef j K seed (nI ii) (by first | assumption | omega) (by first | assumption | omega) (by first | assumption | omega) (by first | assumption | omega)) (cwV 2 hts (kg_V tb_341 tb_342 tb_343 tb_318 tb_340) rfl rfl rfl (by decide +kernel) ⟨Nat.le_of_ble_eq_true rfl, Nat.le_of_ble_eq_true rfl⟩) (kpv_rw hK hN hPc hDc (ci := 6) (q0 := 0) rfl rfl rfl) rfl rfl hl.1 rfl (lv_room (Nat.le_of_ble_eq_true rfl)) dX6_sumRow_31 ⟨Nat.le_of_ble_eq_true rfl, Nat.le_of_ble_eq_true rfl⟩) hS (fun q _ h => hFc q h) hFc (fun r_5 u9 t9 H1 locs ht9 hvm9 hr_5 hB hz1 hk1 hS => ?_)
        obtain ⟨z2_6, rfl⟩ : ∃ z, z = u9 := ⟨_, rfl⟩
        obtain ⟨hP1, hD1⟩ := hB
        rw [ht9] at hP1
        obtain ⟨hP, hD⟩ := va_join (wr := [(mp, .inl (cA 0, 4, .inl pf))]) (w1 := [(mo, .inr (6, [.ref mw, .int (nI cnt), .ref mk, .ref mp, .ref mz, .ref me, .ref mtb, .ref my, .ref mx, .ref mu, .ref mn, .ref mg, .int hf, .int fro, .ref mf, .int (nI fsz), .ref mi, .int (nI isz), .int z2_6, .ref mh, .ref mv, .int (nI rk), .long lf, .long lo, .ref ms])), (mk, .inl (cA 0, 4, .inl kf)), (me, .inl (cA 0, 4, .inl ef))]) hP hD [0, 1, 3] [2] rfl rfl (by decide) (by decide) hk1 hFc hP1 hD1
        generalize H1 = H at hP hS ⊢
        have hP : va_P (dC, dI) vwCl [(mp, .inl (cA 0, 4, .inl pf)), (mo, .inr (6, [.ref mw, .int (nI cnt), .ref mk, .ref mp, .ref mz, .ref me, .ref mtb, .ref my, .ref mx, .ref mu, .ref mn, .ref mg, .int hf, .int fro, .ref mf, .int (nI fsz), .ref mi, .int (nI isz), .int z2_6, .ref mh, .ref mv, .int (nI rk), .long lf, .long lo, .ref ms])), (mk, .inl (cA 0, 4, .inl kf)), (me, .inl (cA 0, 4, .inl ef))] H := hP
        have hD : va_D A [(mp, .inl (cA 0, 4, .inl pf)), (mo, .inr (6, [.ref mw, .int (nI cnt), .ref mk, .ref mp, .ref mz, .ref me, .ref mtb, .ref my, .ref mx, .ref mu, .ref mn, .ref mg, .int hf, .int fro, .ref mf, .int (nI fsz), .ref mi, .int (nI isz), .int z2_6, .ref mh, .ref mv, .int (nI rk), .long lf, .long lo, .ref ms])), (mk, .inl (cA 0, 4, .inl kf)), (me, .inl (cA 0, 4, .inl ef))] := hD
        refine kt_l (y := rs_sb (seed + (40503 * ((nI ii) + 1))) K) hr_5 ?_
        have hP9 := hP.sub (ws' := [(mo, .inr (6, [.ref mw, .int (nI cnt), .ref mk, .ref mp, .ref mz, .ref me, .ref mtb, .ref my, .ref mx, .ref mu, .ref mn, .ref mg, .int hf, .int fro, .ref mf, .int (nI fsz), .ref mi, .int (nI isz), .int z2_6, .ref mh, .ref mv, .int (nI rk), .long lf, .long lo, .ref ms])), (mk, .inl (cA 0, 4, .inl kf)), (mp, .inl (cA 0, 4, .inl pf)), (me, .inl (cA 0, 4, .inl ef))]) [1, 2, 0, 3] rfl
        have hD9 := hD.sub (ws' := [(mo, .inr (6, [.ref mw, .int (nI cnt), .ref mk, .ref mp, .ref mz, .ref me, .ref mtb, .ref my, .ref mx, .ref mu, .ref mn, .ref mg, .int hf, .int fro, .ref mf, .int (nI fsz), .ref mi, .int (nI isz), .int z2_6, .ref mh, .ref mv, .int (nI rk), .long lf, .long lo, .ref ms])), (mk, .inl (cA 0, 4, .inl kf)), (mp, .inl (cA 0, 4, .inl pf)), (me, .inl (cA 0, 4, .inl ef))]) [1, 2, 0, 3] (by decide) rfl
        exact W.lret (v := rs_sb (seed + (40503 * ((nI ii) + 1))) K) hx hb hr (fun t9 ht9 hW9 => ⟨⟨rs_sb (seed + (40503 * ((nI ii) + 1))) K, z2_6, rfl, rfl, by rw [ht9]; exact hP9, hD9⟩, hS.F ht9⟩) hS.2.2 dX6_sumRow_34
      · have c_4 : ¬ ((nI ii) < (nI P)) := c_4
        exact absurd (nI_lt hii (by omega)) c_4
set_option maxHeartbeats 4000000 in
set_option maxRecDepth 100000 in
theorem c_M_part_bad (l : Launch) (dC : Nat → ClassId) (dI : Nat → Nat → Nat) (cA : Nat → ClassId) (mo : Nat) (mw : Nat) (mk : Nat) (mp : Nat) (mz : Nat) (me : Nat) (mtb : Nat) (my : Nat) (mx : Nat) (mu : Nat) (mn : Nat) (mg : Nat) (mf : Nat) (mi : Nat) (mh : Nat) (mv : Nat) (ms : Nat) (cnt : Nat) (hf : Int32) (fro : Int32) (fsz : Nat) (isz : Nat) (z : Int32) (rk : Nat) (lf : Int64) (lo : Int64) (kf : Nat → Int32) (pf : Nat → Int32) (j : Nat) (K : Nat) (P : Nat) (x : Int32) (hj4 : j < 4) (hjc : j < cnt) (hc4 : cnt ≤ 4) (hkf : kf j = nI K) (hpf : pf j = nI P) (hK32 : K ≤ 32) (hP8 : P ≤ 8) (hbad : sp_has (K + P) x = 0) : Met l yX6_part (kw_X6_part) ({ frames := 2, cells := 0, slots := 0, locals := 43 }) (va_Pc [.ref mo, .int (nI j), .int x] (fun U => kRO dC dI cA [(mo, .inr (6, [.ref mw, .int (nI cnt), .ref mk, .ref mp, .ref mz, .ref me, .ref mtb, .ref my, .ref mx, .ref mu, .ref mn, .ref mg, .int hf, .int fro, .ref mf, .int (nI fsz), .ref mi, .int (nI isz), .int z, .ref mh, .ref mv, .int (nI rk), .long lf, .long lo, .ref ms])), (mk, .inl (cA 0, 4, .inl kf)), (mp, .inl (cA 0, 4, .inl pf))] U)) (vp_Sl (fun r => r = 0)) 0 0 (fun _ => False) := by
  refine Met.ofW (cc := cX6_part) (maxL := 3) (ret := (some .long)) (by decide) rfl ?_
  intro p e s m args below meth c s₁ B hml hv
  obtain ⟨rfl, hP, hK, hN⟩ := hv
  have hx := B.exec
  have hb := B.bytes
  have hr := B.returns
  have hts0 := atoms_spec (ws := (kw_X6_part)) B.pre
  have hts : ∀ w ∈ TB, w.before _ s = true := fun w h => hts0 w (List.mem_cons_of_mem _ h)
  have hown : s.vm.findClass RX6 = some m.cls := findClass_of_methodNamed B.named
  have hlocks := B.notSynchronized
  have hl := lv_entry ([.ref mo, .int (nI j), .int x]) (n := 3) (Nat.le_of_ble_eq_true rfl)
  rw [lg_entry_eq]
  generalize (lg_sl ([.ref mo, .int (nI j), .int x]) ++ List.replicate (3 - (lg_sl ([.ref mo, .int (nI j), .int x])).length) Slot.unset).toArray = ls at hl ⊢
  have hl : lv_has ls 3 [(0, .ref mo), (1, .int (nI j)), (2, .int x)] := hl
  refine lv_aload_n hx hb dX6_part_0 rfl (lv_at hl 0 rfl) ?_
  refine lv_iload_n hx hb dX6_part_1 rfl (lv_at hl 1 rfl) ?_
  refine lv_iload_n hx hb dX6_part_2 rfl (lv_at hl 2 rfl) ?_
  have hPc := hP.sub (ws' := [(mo, .inr (6, [.ref mw, .int (nI cnt), .ref mk, .ref mp, .ref mz, .ref me, .ref mtb, .ref my, .ref mx, .ref mu, .ref mn, .ref mg, .int hf, .int fro, .ref mf, .int (nI fsz), .ref mi, .int (nI isz), .int z, .ref mh, .ref mv, .int (nI rk), .long lf, .long lo, .ref ms])), (mk, .inl (cA 0, 4, .inl kf)), (mp, .inl (cA 0, 4, .inl pf))]) [0, 1, 2] rfl
  refine kq_csi (va_runV (As := [.int (nI j), .int x]) (rest := []) ⟨hx, hb, hml, hown, hts⟩ (c_M_isPart_at l dC dI cA mo mw mk mp mz me mtb my mx mu mn mg mf mi mh mv ms cnt hf fro fsz isz z rk lf lo kf pf j K P x (by first | assumption | omega) (by first | assumption | omega) (by first | assumption | omega) (by first | assumption | omega) (by first | assumption | omega) (by first | assumption | omega) (by first | assumption | omega)) (cwV 2 hts (kg_V tb_321 tb_322 tb_323 tb_318 tb_320) rfl rfl rfl (by decide +kernel) ⟨Nat.le_of_ble_eq_true rfl, Nat.le_of_ble_eq_true rfl⟩) (kpv_ro hK hN hPc (ci := 6) (q0 := 0) rfl rfl rfl) rfl rfl hl.1 rfl (lv_room (Nat.le_of_ble_eq_true rfl)) dX6_part_3 ⟨Nat.le_of_ble_eq_true rfl, Nat.le_of_ble_eq_true rfl⟩) (fun r_1 hr_1 => ?_)
  refine kt_i (y := sp_has (K + P) x) hr_1 ?_
  refine lv_if_eq (tgt := 18) hx hb dX6_part_6 (by decide) (fun c_2 => ?_) (fun c_2 => ?_)
  · have c_2 : (sp_has (K + P) x) = 0 := c_2
    refine lv_lconst (v := 0) hx hb dX6_part_18 (by decide) ?_
    exact W.lret (v := 0) hx hb hr (fun t9 ht9 hW9 => ⟨0, rfl, rfl, ht9⟩) (fun _ h => absurd h List.not_mem_nil) dX6_part_19
  · have c_2 : ¬ ((sp_has (K + P) x) = 0) := c_2
    exact absurd hbad c_2
set_option maxHeartbeats 4000000 in
set_option maxRecDepth 100000 in
theorem c_M_part_at (l : Launch) (dC : Nat → ClassId) (dI : Nat → Nat → Nat) (cA : Nat → ClassId) (sz : Nat) (mo : Nat) (mw : Nat) (mk : Nat) (mp : Nat) (mz : Nat) (me : Nat) (mtb : Nat) (my : Nat) (mx : Nat) (mu : Nat) (mn : Nat) (mg : Nat) (mf : Nat) (mi : Nat) (mh : Nat) (mv : Nat) (ms : Nat) (cnt : Nat) (hf : Int32) (fro : Int32) (fsz : Nat) (isz : Nat) (z : Int32) (rk : Nat) (lf : Int64) (lo : Int64) (kf : Nat → Int32) (pf : Nat → Int32) (ef : Nat → Int32) (syf : Nat → Int64) (j : Nat) (K : Nat) (P : Nat) (seed : Int32) (ii : Nat) (hj4 : j < 4) (hjc : j < cnt) (hc4 : cnt ≤ 4) (hkf : kf j = nI K) (hpf : pf j = nI P) (hef : ef j = seed) (hK32 : K ≤ 32) (hP8 : P ≤ 8) (hii : ii < K + P) : Met l yX6_part (kw_X6_part) ({ frames := 3, cells := 0, slots := 0, locals := 67 }) (va_Pc [.ref mo, .int (nI j), .int (nI ii)] (fun U => kRW dC dI cA [(mo, .inr (6, [.ref mw, .int (nI cnt), .ref mk, .ref mp, .ref mz, .ref me, .ref mtb, .ref my, .ref mx, .ref mu, .ref mn, .ref mg, .int hf, .int fro, .ref mf, .int (nI fsz), .ref mi, .int (nI isz), .int z, .ref mh, .ref mv, .int (nI rk), .long lf, .long lo, .ref ms])), (mk, .inl (cA 0, 4, .inl kf)), (mp, .inl (cA 0, 4, .inl pf)), (me, .inl (cA 0, 4, .inl ef)), (my, .inl (cA 1, 128, .inr (.inl syf)))] sz U)) (va_Ql (fun r (u : Int32) => r = rs_part syf j K seed ii) (fun (u : Int32) t => kB dC dI (va_A [(mo, .inr (6, [.ref mw, .int (nI cnt), .ref mk, .ref mp, .ref mz, .ref me, .ref mtb, .ref my, .ref mx, .ref mu, .ref mn, .ref mg, .int hf, .int fro, .ref mf, .int (nI fsz), .ref mi, .int (nI isz), .int z, .ref mh, .ref mv, .int (nI rk), .long lf, .long lo, .ref ms])), (mk, .inl (cA 0, 4, .inl kf)), (mp, .inl (cA 0, 4, .inl pf)), (me, .inl (cA 0, 4, .inl ef)), (my, .inl (cA 1, 128, .inr (.inl syf)))] sz) [(mo, .inr (6, [.ref mw, .int (nI cnt), .ref mk, .ref mp, .ref mz, .ref me, .ref mtb, .ref my, .ref mx, .ref mu, .ref mn, .ref mg, .int hf, .int fro, .ref mf, .int (nI fsz), .ref mi, .int (nI isz), .int u, .ref mh, .ref mv, .int (nI rk), .long lf, .long lo, .ref ms])), (mk, .inl (cA 0, 4, .inl kf)), (mp, .inl (cA 0, 4, .inl pf)), (me, .inl (cA 0, 4, .inl ef)), (my, .inl (cA 1, 128, .inr (.inl syf)))] t) (va_A [(mo, .inr (6, [.ref mw, .int (nI cnt), .ref mk, .ref mp, .ref mz, .ref me, .ref mtb, .ref my, .ref mx, .ref mu, .ref mn, .ref mg, .int hf, .int fro, .ref mf, .int (nI fsz), .ref mi, .int (nI isz), .int z, .ref mh, .ref mv, .int (nI rk), .long lf, .long lo, .ref ms])), (mk, .inl (cA 0, 4, .inl kf)), (mp, .inl (cA 0, 4, .inl pf)), (me, .inl (cA 0, 4, .inl ef)), (my, .inl (cA 1, 128, .inr (.inl syf)))] sz)) 0 0 (va_A [(mo, .inr (6, [.ref mw, .int (nI cnt), .ref mk, .ref mp, .ref mz, .ref me, .ref mtb, .ref my, .ref mx, .ref mu, .ref mn, .ref mg, .int hf, .int fro, .ref mf, .int (nI fsz), .ref mi, .int (nI isz), .int z, .ref mh, .ref mv, .int (nI rk), .long lf, .long lo, .ref ms])), (mk, .inl (cA 0, 4, .inl kf)), (mp, .inl (cA 0, 4, .inl pf)), (me, .inl (cA 0, 4, .inl ef)), (my, .inl (cA 1, 128, .inr (.inl syf)))] sz) := by
  refine Met.ofW (cc := cX6_part) (maxL := 3) (ret := (some .long)) (by decide) rfl ?_
  intro p e s m args below meth c s₁ B hml hv
  obtain ⟨rfl, hsz, hP, hK, hN, hD0⟩ := hv
  have hx := B.exec
  have hb := B.bytes
  have hr := B.returns
  have hts0 := atoms_spec (ws := (kw_X6_part)) B.pre
  have hts : ∀ w ∈ TB, w.before _ s = true := fun w h => hts0 w (List.mem_cons_of_mem _ h)
  have hown : s.vm.findClass RX6 = some m.cls := findClass_of_methodNamed B.named
  have hlocks := B.notSynchronized
  subst hsz
  have hD := hD0.self (sz := s.heap.size)
  generalize hAe : va_A [(mo, .inr (6, [.ref mw, .int (nI cnt), .ref mk, .ref mp, .ref mz, .ref me, .ref mtb, .ref my, .ref mx, .ref mu, .ref mn, .ref mg, .int hf, .int fro, .ref mf, .int (nI fsz), .ref mi, .int (nI isz), .int z, .ref mh, .ref mv, .int (nI rk), .long lf, .long lo, .ref ms])), (mk, .inl (cA 0, 4, .inl kf)), (mp, .inl (cA 0, 4, .inl pf)), (me, .inl (cA 0, 4, .inl ef)), (my, .inl (cA 1, 128, .inr (.inl syf)))] s.heap.size = A at hD ⊢
  have hA : ∀ q : Nat, s.heap.size ≤ q → A q := fun q h => by rw [← hAe]; exact Or.inr h
  have hS : va_S A s.heap s.heap [] := va_S.rf
  have hl := lv_entry ([.ref mo, .int (nI j), .int (nI ii)]) (n := 3) (Nat.le_of_ble_eq_true rfl)
  rw [lg_entry_eq]
  generalize (lg_sl ([.ref mo, .int (nI j), .int (nI ii)]) ++ List.replicate (3 - (lg_sl ([.ref mo, .int (nI j), .int (nI ii)])).length) Slot.unset).toArray = ls at hl ⊢
  have hl : lv_has ls 3 [(0, .ref mo), (1, .int (nI j)), (2, .int (nI ii))] := hl
  refine lv_aload_n hx hb dX6_part_0 rfl (lv_at hl 0 rfl) ?_
  refine lv_iload_n hx hb dX6_part_1 rfl (lv_at hl 1 rfl) ?_
  refine lv_iload_n hx hb dX6_part_2 rfl (lv_at hl 2 rfl) ?_
  have hPc := hP.sub (ws' := [(mo, .inr (6, [.ref mw, .int (nI cnt), .ref mk, .ref mp, .ref mz, .ref me, .ref mtb, .ref my, .ref mx, .ref mu, .ref mn, .ref mg, .int hf, .int fro, .ref mf, .int (nI fsz), .ref mi, .int (nI isz), .int z, .ref mh, .ref mv, .int (nI rk), .long lf, .long lo, .ref ms])), (mk, .inl (cA 0, 4, .inl kf)), (mp, .inl (cA 0, 4, .inl pf))]) [0, 1, 2] rfl
  refine kq_csi (va_runV (As := [.int (nI j), .int (nI ii)]) (rest := []) ⟨hx, hb, hml, hown, hts⟩ (c_M_isPart_at l dC dI cA mo mw mk mp mz me mtb my mx mu mn mg mf mi mh mv ms cnt hf fro fsz isz z rk lf lo kf pf j K P (nI ii) (by first | assumption | omega) (by first | assumption | omega) (by first | assumption | omega) (by first | assumption | omega) (by first | assumption | omega) (by first | assumption | omega) (by first | assumption | omega)) (cwV 2 hts (kg_V tb_321 tb_322 tb_323 tb_318 tb_320) rfl rfl rfl (by decide +kernel) ⟨Nat.le_of_ble_eq_true rfl, Nat.le_of_ble_eq_true rfl⟩) (kpv_ro hK hN hPc (ci := 6) (q0 := 0) rfl rfl rfl) rfl rfl hl.1 rfl (lv_room (Nat.le_of_ble_eq_true rfl)) dX6_part_3 ⟨Nat.le_of_ble_eq_true rfl, Nat.le_of_ble_eq_true rfl⟩) (fun r_1 hr_1 => ?_)
  refine kt_i (y := sp_has (K + P) (nI ii)) hr_1 ?_
  refine lv_if_eq (tgt := 18) hx hb dX6_part_6 (by decide) (fun c_2 => ?_) (fun c_2 => ?_)
  · have c_2 : (sp_has (K + P) (nI ii)) = 0 := c_2
    exact absurd c_2 (sp_has_nI hii (by omega))
  · have c_2 : ¬ ((sp_has (K + P) (nI ii)) = 0) := c_2
    refine lv_aload_n hx hb dX6_part_9 rfl (lv_at hl 0 rfl) ?_
    refine lv_iload_n hx hb dX6_part_10 rfl (lv_at hl 1 rfl) ?_
    refine lv_iload_n hx hb dX6_part_11 rfl (lv_at hl 2 rfl) ?_
    have hPc := hP.sub (ws' := [(mo, .inr (6, [.ref mw, .int (nI cnt), .ref mk, .ref mp, .ref mz, .ref me, .ref mtb, .ref my, .ref mx, .ref mu, .ref mn, .ref mg, .int hf, .int fro, .ref mf, .int (nI fsz), .ref mi, .int (nI isz), .int z, .ref mh, .ref mv, .int (nI rk), .long lf, .long lo, .ref ms])), (mk, .inl (cA 0, 4, .inl kf)), (me, .inl (cA 0, 4, .inl ef)), (my, .inl (cA 1, 128, .inr (.inl syf)))]) [0, 1, 3, 4] rfl
    have hDc := hD.sub (ws' := [(mo, .inr (6, [.ref mw, .int (nI cnt), .ref mk, .ref mp, .ref mz, .ref me, .ref mtb, .ref my, .ref mx, .ref mu, .ref mn, .ref mg, .int hf, .int fro, .ref mf, .int (nI fsz), .ref mi, .int (nI isz), .int z, .ref mh, .ref mv, .int (nI rk), .long lf, .long lo, .ref ms])), (mk, .inl (cA 0, 4, .inl kf)), (me, .inl (cA 0, 4, .inl ef)), (my, .inl (cA 1, 128, .inr (.inl syf)))]) [0, 1, 3, 4] (by decide) rfl
    have hFc := va_free (wc := [(mo, .inr (6, [.ref mw, .int (nI cnt), .ref mk, .ref mp, .ref mz, .ref me, .ref mtb, .ref my, .ref mx, .ref mu, .ref mn, .ref mg, .int hf, .int fro, .ref mf, .int (nI fsz), .ref mi, .int (nI isz), .int z, .ref mh, .ref mv, .int (nI rk), .long lf, .long lo, .ref ms])), (mk, .inl (cA 0, 4, .inl kf)), (me, .inl (cA 0, 4, .inl ef)), (my, .inl (cA 1, 128, .inr (.inl syf)))]) hD hS hA [0, 1, 3, 4] rfl
    refine va_calll (va_runV (As := [.int (nI j), .int (nI ii)]) (rest := []) ⟨hx, hb, hml, hown, hts⟩ (c_M_partOf l dC dI cA s.heap.size mo mw mk mp mz me mtb my mx mu mn mg mf mi mh mv ms cnt hf fro fsz isz z rk lf lo kf ef syf j K P seed ii (by first | assumption | omega) (by first | assumption | omega) (by first | assumption | omega) (by first | assumption | omega) (by first | assumption | omega) (by first | assumption | omega)) (cwV 2 hts (kg_V tb_355 tb_356 tb_357 tb_318 tb_354) rfl rfl rfl (by decide +kernel) ⟨Nat.le_of_ble_eq_true rfl, Nat.le_of_ble_eq_true rfl⟩) (kpv_rw hK hN hPc hDc (ci := 6) (q0 := 0) rfl rfl rfl) rfl rfl hl.1 rfl (lv_room (Nat.le_of_ble_eq_true rfl)) dX6_part_12 ⟨Nat.le_of_ble_eq_true rfl, Nat.le_of_ble_eq_true rfl⟩) hS (fun q _ h => hFc q h) hFc (fun r_3 u9 t9 H1 locs ht9 hvm9 hr_3 hB hz1 hk1 hS => ?_)
    obtain ⟨z2_4, rfl⟩ : ∃ z, z = u9 := ⟨_, rfl⟩
    obtain ⟨hP1, hD1⟩ := hB
    rw [ht9] at hP1
    obtain ⟨hP, hD⟩ := va_join (wr := [(mp, .inl (cA 0, 4, .inl pf))]) (w1 := [(mo, .inr (6, [.ref mw, .int (nI cnt), .ref mk, .ref mp, .ref mz, .ref me, .ref mtb, .ref my, .ref mx, .ref mu, .ref mn, .ref mg, .int hf, .int fro, .ref mf, .int (nI fsz), .ref mi, .int (nI isz), .int z2_4, .ref mh, .ref mv, .int (nI rk), .long lf, .long lo, .ref ms])), (mk, .inl (cA 0, 4, .inl kf)), (me, .inl (cA 0, 4, .inl ef)), (my, .inl (cA 1, 128, .inr (.inl syf)))]) hP hD [0, 1, 3, 4] [2] rfl rfl (by decide) (by decide) hk1 hFc hP1 hD1
    generalize H1 = H at hP hS ⊢
    have hP : va_P (dC, dI) vwCl [(mp, .inl (cA 0, 4, .inl pf)), (mo, .inr (6, [.ref mw, .int (nI cnt), .ref mk, .ref mp, .ref mz, .ref me, .ref mtb, .ref my, .ref mx, .ref mu, .ref mn, .ref mg, .int hf, .int fro, .ref mf, .int (nI fsz), .ref mi, .int (nI isz), .int z2_4, .ref mh, .ref mv, .int (nI rk), .long lf, .long lo, .ref ms])), (mk, .inl (cA 0, 4, .inl kf)), (me, .inl (cA 0, 4, .inl ef)), (my, .inl (cA 1, 128, .inr (.inl syf)))] H := hP
    have hD : va_D A [(mp, .inl (cA 0, 4, .inl pf)), (mo, .inr (6, [.ref mw, .int (nI cnt), .ref mk, .ref mp, .ref mz, .ref me, .ref mtb, .ref my, .ref mx, .ref mu, .ref mn, .ref mg, .int hf, .int fro, .ref mf, .int (nI fsz), .ref mi, .int (nI isz), .int z2_4, .ref mh, .ref mv, .int (nI rk), .long lf, .long lo, .ref ms])), (mk, .inl (cA 0, 4, .inl kf)), (me, .inl (cA 0, 4, .inl ef)), (my, .inl (cA 1, 128, .inr (.inl syf)))] := hD
    refine kt_l (y := rs_part syf j K seed ii) hr_3 ?_
    refine lv_goto (tgt := 19) hx hb dX6_part_15 (by decide) ?_
    have hP9 := hP.sub (ws' := [(mo, .inr (6, [.ref mw, .int (nI cnt), .ref mk, .ref mp, .ref mz, .ref me, .ref mtb, .ref my, .ref mx, .ref mu, .ref mn, .ref mg, .int hf, .int fro, .ref mf, .int (nI fsz), .ref mi, .int (nI isz), .int z2_4, .ref mh, .ref mv, .int (nI rk), .long lf, .long lo, .ref ms])), (mk, .inl (cA 0, 4, .inl kf)), (mp, .inl (cA 0, 4, .inl pf)), (me, .inl (cA 0, 4, .inl ef)), (my, .inl (cA 1, 128, .inr (.inl syf)))]) [1, 2, 0, 3, 4] rfl
    have hD9 := hD.sub (ws' := [(mo, .inr (6, [.ref mw, .int (nI cnt), .ref mk, .ref mp, .ref mz, .ref me, .ref mtb, .ref my, .ref mx, .ref mu, .ref mn, .ref mg, .int hf, .int fro, .ref mf, .int (nI fsz), .ref mi, .int (nI isz), .int z2_4, .ref mh, .ref mv, .int (nI rk), .long lf, .long lo, .ref ms])), (mk, .inl (cA 0, 4, .inl kf)), (mp, .inl (cA 0, 4, .inl pf)), (me, .inl (cA 0, 4, .inl ef)), (my, .inl (cA 1, 128, .inr (.inl syf)))]) [1, 2, 0, 3, 4] (by decide) rfl
    exact W.lret (v := rs_part syf j K seed ii) hx hb hr (fun t9 ht9 hW9 => ⟨⟨rs_part syf j K seed ii, z2_4, rfl, rfl, by rw [ht9]; exact hP9, hD9⟩, hS.F ht9⟩) hS.2.2 dX6_part_19
set_option maxHeartbeats 4000000 in
set_option maxRecDepth 100000 in
theorem c_M_sum (l : Launch) (dC : Nat → ClassId) (dI : Nat → Nat → Nat) (cA : Nat → ClassId) (mo : Nat) (mw : Nat) (mk : Nat) (mp : Nat) (mz : Nat) (me : Nat) (mtb : Nat) (my : Nat) (mx : Nat) (mu : Nat) (mn : Nat) (mg : Nat) (mf : Nat) (mi : Nat) (mh : Nat) (mv : Nat) (ms : Nat) (cnt : Nat) (hf : Int32) (fro : Int32) (fsz : Nat) (isz : Nat) (z : Int32) (rk : Nat) (lf : Int64) (lo : Int64) (ra : Nat) (nA : Nat) (f : Nat → Int32) (cn : Nat) (hcn : cn ≤ nA) (hnA : nA < 2 ^ 30) : Met l yX6_sum (kw_X6_sum) ({ frames := 0, cells := 0, slots := 0, locals := 0 }) (va_Pc [.ref mo, .ref ra, .int (nI cn)] (fun U => kRO dC dI cA [(mo, .inr (6, [.ref mw, .int (nI cnt), .ref mk, .ref mp, .ref mz, .ref me, .ref mtb, .ref my, .ref mx, .ref mu, .ref mn, .ref mg, .int hf, .int fro, .ref mf, .int (nI fsz), .ref mi, .int (nI isz), .int z, .ref mh, .ref mv, .int (nI rk), .long lf, .long lo, .ref ms])), (ra, .inl (cA 0, nA, .inl f))] U)) (vp_Si (fun r => r = rs_crc f cn)) 0 0 (fun _ => False) := by
  refine Met.ofW (cc := cX6_sum) (maxL := 6) (ret := (some .int)) (by decide) rfl ?_
  intro p e s m args below meth c s₁ B hml hv
  obtain ⟨rfl, hP, hK, hN⟩ := hv
  have hx := B.exec
  have hb := B.bytes
  have hr := B.returns
  have hts0 := atoms_spec (ws := (kw_X6_sum)) B.pre
  have hts : ∀ w ∈ TB, w.before _ s = true := fun w h => hts0 w (List.mem_cons_of_mem _ h)
  have hown : s.vm.findClass RX6 = some m.cls := findClass_of_methodNamed B.named
  have hlocks := B.notSynchronized
  have hk_0 := hts (.constant RX6 97 65535) tb_353
  have hl := lv_entry ([.ref mo, .ref ra, .int (nI cn)]) (n := 6) (Nat.le_of_ble_eq_true rfl)
  rw [lg_entry_eq]
  generalize (lg_sl ([.ref mo, .ref ra, .int (nI cn)]) ++ List.replicate (6 - (lg_sl ([.ref mo, .ref ra, .int (nI cn)])).length) Slot.unset).toArray = ls at hl ⊢
  have hl : lv_has ls 6 [(0, .ref mo), (1, .ref ra), (2, .int (nI cn))] := hl
  refine lv_ldc (v := 65535) hx hb hown hk_0 dX6_sum_0 ?_
  refine lv_istore_n (lv' := [(3, .int 65535), (0, .ref mo), (1, .ref ra), (2, .int (nI cn))]) hx hb dX6_sum_2 rfl hl (by decide) rfl (fun ls hl => ?_)
  refine lv_iconst (v := 0) hx hb dX6_sum_3 (by decide) ?_
  refine lv_istore (lv' := [(4, .int 0), (3, .int 65535), (0, .ref mo), (1, .ref ra), (2, .int (nI cn))]) hx hb dX6_sum_4 hl (by decide) rfl (fun ls hl => ?_)
  have hi_hk : 0 ≤ cn := (by omega)
  have hi_hx9 : 65535 = rs_crc f 0 := rfl
  have hl9 : lv_has ls 6 [(4, .int (nI 0)), (3, .int 65535), (0, .ref mo), (1, .ref ra), (2, .int (nI cn))] := lv_sub hl [0, 1, 2, 3, 4] rfl
  refine r_loop2 (I := fun (k : Nat) (x : Int32) (ls : Array Slot) => (k ≤ cn) ∧ (x = rs_crc f k) ∧ lv_has ls 6 [(4, .int (nI k)), (3, .int x), (0, .ref mo), (1, .ref ra), (2, .int (nI cn))]) (μ := fun k x => cn - k) ?_ 0 65535 ⟨hi_hk, hi_hx9, hl9⟩
  intro k x ls hI9 ih_L0
  obtain ⟨hk, hx9, hl⟩ := hI9
  refine lv_iload hx hb dX6_sum_6 (lv_at hl 0 rfl) ?_
  refine lv_iload_n hx hb dX6_sum_8 rfl (lv_at hl 4 rfl) ?_
  refine lv_icmp_ge (tgt := 67) hx hb dX6_sum_9 (by decide) (fun c_1 => ?_) (fun c_1 => ?_)
  · have c_1 : (nI cn) ≤ (nI k) := c_1
    have hk9 : cn ≤ k := (ku_le (a := cn) (b := k) (by omega) (by omega)).mp c_1
    refine lv_iload_n hx hb dX6_sum_67 rfl (lv_at hl 1 rfl) ?_
    exact W.iret (v := x) hx hb hr (fun t9 ht9 hW9 => ⟨x, rfl, (by have e : k = cn := (by omega); rw [hx9, e]), ht9⟩) (fun _ h => absurd h List.not_mem_nil) dX6_sum_68
  · have c_1 : ¬ ((nI cn) ≤ (nI k)) := c_1
    have hk9 : k < cn := (ku_nle (a := cn) (b := k) (by omega) (by omega)).mp c_1
    refine lv_iload_n hx hb dX6_sum_12 rfl (lv_at hl 1 rfl) ?_
    refine lv_aload_n hx hb dX6_sum_13 rfl (lv_at hl 3 rfl) ?_
    refine lv_iload hx hb dX6_sum_14 (lv_at hl 0 rfl) ?_
    refine va_iald (D := (dC, dI)) hx hb hK hP 1 0 rfl rfl (vp_in_nI (by omega) (by omega)) dX6_sum_16 ?_
    refine kt_i (congrArg f (nI_clamp (by omega : k < 2 ^ 31))) ?_
    refine lv_bipush (v := 8) hx hb dX6_sum_17 (by decide) ?_
    refine lv_ishl hx hb dX6_sum_19 ?_
    refine lv_ixor hx hb dX6_sum_20 ?_
    refine lv_istore_n (lv' := [(3, .int (x ^^^ ((f k) <<< ((8 : Int32) &&& 31)))), (4, .int (nI k)), (0, .ref mo), (1, .ref ra), (2, .int (nI cn))]) hx hb dX6_sum_21 rfl hl (by decide) rfl (fun ls hl => ?_)
    refine lv_iconst (v := 0) hx hb dX6_sum_22 (by decide) ?_
    refine lv_istore (lv' := [(5, .int 0), (3, .int (x ^^^ ((f k) <<< ((8 : Int32) &&& 31)))), (4, .int (nI k)), (0, .ref mo), (1, .ref ra), (2, .int (nI cn))]) hx hb dX6_sum_23 hl (by decide) rfl (fun ls hl => ?_)
    have hi_hq : 0 ≤ 8 := (by omega)
    have hi_hy9 : (x ^^^ ((f k) <<< ((8 : Int32) &&& 31))) = sp_crcb (x ^^^ ((f k) <<< ((8 : Int32) &&& 31))) 0 := rfl
    have hl9 : lv_has ls 6 [(5, .int (nI 0)), (3, .int (x ^^^ ((f k) <<< ((8 : Int32) &&& 31)))), (4, .int (nI k)), (0, .ref mo), (1, .ref ra), (2, .int (nI cn))] := lv_sub hl [0, 1, 2, 3, 4, 5] rfl
    refine r_loop2 (I := fun (q : Nat) (y : Int32) (ls : Array Slot) => (q ≤ 8) ∧ (y = sp_crcb (x ^^^ ((f k) <<< ((8 : Int32) &&& 31))) q) ∧ lv_has ls 6 [(5, .int (nI q)), (3, .int y), (4, .int (nI k)), (0, .ref mo), (1, .ref ra), (2, .int (nI cn))]) (μ := fun q y => 8 - q) ?_ 0 (x ^^^ ((f k) <<< ((8 : Int32) &&& 31))) ⟨hi_hq, hi_hy9, hl9⟩
    intro q y ls hI9 ih_L1
    obtain ⟨hq, hy9, hl⟩ := hI9
    refine lv_iload hx hb dX6_sum_25 (lv_at hl 0 rfl) ?_
    refine lv_bipush (v := 8) hx hb dX6_sum_27 (by decide) ?_
    refine lv_icmp_ge (tgt := 61) hx hb dX6_sum_29 (by decide) (fun c_2 => ?_) (fun c_2 => ?_)
    · have c_2 : 8 ≤ (nI q) := c_2
      have hk9 : 8 ≤ q := (ku_le (a := 8) (b := q) (by omega) (by omega)).mp c_2
      refine lv_iinc (v := nI (k + 1)) (lv' := [(4, .int (nI (k + 1))), (5, .int (nI q)), (3, .int y), (0, .ref mo), (1, .ref ra), (2, .int (nI cn))]) hx hb dX6_sum_61 hl (k := 2) rfl (nI_succ _).symm (by decide) rfl (fun ls hl => ?_)
      refine lv_goto (tgt := 6) hx hb dX6_sum_64 (by decide) ?_
      have hi_hk : (k + 1) ≤ cn := (by omega)
      have hi_hx9 : y = rs_crc f (k + 1) := (by have e : q = 8 := (by omega); rw [hy9, e, hx9]; rfl)
      have hl9 : lv_has ls 6 [(4, .int (nI (k + 1))), (3, .int y), (0, .ref mo), (1, .ref ra), (2, .int (nI cn))] := lv_sub hl [0, 2, 3, 4, 5] rfl
      exact ih_L0 (k + 1) y ls ⟨hi_hk, hi_hx9, hl9⟩ (by show cn - (k + 1) < cn - k; omega)
    · have c_2 : ¬ (8 ≤ (nI q)) := c_2
      have hk9 : q < 8 := (ku_nle (a := 8) (b := q) (by omega) (by omega)).mp c_2
      refine lv_iload_n hx hb dX6_sum_32 rfl (lv_at hl 1 rfl) ?_
      refine lv_iconst (v := 1) hx hb dX6_sum_33 (by decide) ?_
      refine lv_ishl hx hb dX6_sum_34 ?_
      refine lv_istore_n (lv' := [(3, .int (y <<< ((1 : Int32) &&& 31))), (5, .int (nI q)), (4, .int (nI k)), (0, .ref mo), (1, .ref ra), (2, .int (nI cn))]) hx hb dX6_sum_35 rfl hl (by decide) rfl (fun ls hl => ?_)
      refine lv_iload_n hx hb dX6_sum_36 rfl (lv_at hl 0 rfl) ?_
      refine lv_ldc (v := 65535) hx hb hown hk_0 dX6_sum_37 ?_
      refine lv_icmp_le (tgt := 53) hx hb dX6_sum_39 (by decide) (fun c_3 => ?_) (fun c_3 => ?_)
      · have c_3 : (y <<< ((1 : Int32) &&& 31)) ≤ 65535 := c_3
        refine lv_iload_n hx hb dX6_sum_53 rfl (lv_at hl 0 rfl) ?_
        refine lv_istore_n (lv' := [(3, .int (y <<< ((1 : Int32) &&& 31))), (5, .int (nI q)), (4, .int (nI k)), (0, .ref mo), (1, .ref ra), (2, .int (nI cn))]) hx hb dX6_sum_54 rfl hl (by decide) rfl (fun ls hl => ?_)
        refine lv_iinc (v := nI (q + 1)) (lv' := [(5, .int (nI (q + 1))), (3, .int (y <<< ((1 : Int32) &&& 31))), (4, .int (nI k)), (0, .ref mo), (1, .ref ra), (2, .int (nI cn))]) hx hb dX6_sum_55 hl (k := 1) rfl (nI_succ _).symm (by decide) rfl (fun ls hl => ?_)
        refine lv_goto (tgt := 25) hx hb dX6_sum_58 (by decide) ?_
        have hi_hq : (q + 1) ≤ 8 := (by omega)
        have hi_hy9 : (y <<< ((1 : Int32) &&& 31)) = sp_crcb (x ^^^ ((f k) <<< ((8 : Int32) &&& 31))) (q + 1) := (by subst hy9; exact (if_pos c_3).symm)
        have hl9 : lv_has ls 6 [(5, .int (nI (q + 1))), (3, .int (y <<< ((1 : Int32) &&& 31))), (4, .int (nI k)), (0, .ref mo), (1, .ref ra), (2, .int (nI cn))] := lv_sub hl [0, 1, 2, 3, 4, 5] rfl
        exact ih_L1 (q + 1) (y <<< ((1 : Int32) &&& 31)) ls ⟨hi_hq, hi_hy9, hl9⟩ (by show 8 - (q + 1) < 8 - q; omega)
      · have c_3 : ¬ ((y <<< ((1 : Int32) &&& 31)) ≤ 65535) := c_3
        refine lv_iload_n hx hb dX6_sum_42 rfl (lv_at hl 0 rfl) ?_
        refine lv_sipush (v := 4129) hx hb dX6_sum_43 (by decide) ?_
        refine lv_ixor hx hb dX6_sum_46 ?_
        refine lv_ldc (v := 65535) hx hb hown hk_0 dX6_sum_47 ?_
        refine lv_iand hx hb dX6_sum_49 ?_
        refine lv_goto (tgt := 54) hx hb dX6_sum_50 (by decide) ?_
        refine lv_istore_n (lv' := [(3, .int (((y <<< ((1 : Int32) &&& 31)) ^^^ 4129) &&& 65535)), (5, .int (nI q)), (4, .int (nI k)), (0, .ref mo), (1, .ref ra), (2, .int (nI cn))]) hx hb dX6_sum_54 rfl hl (by decide) rfl (fun ls hl => ?_)
        refine lv_iinc (v := nI (q + 1)) (lv' := [(5, .int (nI (q + 1))), (3, .int (((y <<< ((1 : Int32) &&& 31)) ^^^ 4129) &&& 65535)), (4, .int (nI k)), (0, .ref mo), (1, .ref ra), (2, .int (nI cn))]) hx hb dX6_sum_55 hl (k := 1) rfl (nI_succ _).symm (by decide) rfl (fun ls hl => ?_)
        refine lv_goto (tgt := 25) hx hb dX6_sum_58 (by decide) ?_
        have hi_hq : (q + 1) ≤ 8 := (by omega)
        have hi_hy9 : (((y <<< ((1 : Int32) &&& 31)) ^^^ 4129) &&& 65535) = sp_crcb (x ^^^ ((f k) <<< ((8 : Int32) &&& 31))) (q + 1) := (by subst hy9; exact (if_neg c_3).symm)
        have hl9 : lv_has ls 6 [(5, .int (nI (q + 1))), (3, .int (((y <<< ((1 : Int32) &&& 31)) ^^^ 4129) &&& 65535)), (4, .int (nI k)), (0, .ref mo), (1, .ref ra), (2, .int (nI cn))] := lv_sub hl [0, 1, 2, 3, 4, 5] rfl
        exact ih_L1 (q + 1) (((y <<< ((1 : Int32) &&& 31)) ^^^ 4129) &&& 65535) ls ⟨hi_hq, hi_hy9, hl9⟩ (by show 8 - (q + 1) < 8 - q; omega)
set_option maxHeartbeats 4000000 in
set_option maxRecDepth 100000 in
theorem c_M_frameByte (l : Launch) (dC : Nat → ClassId) (dI : Nat → Nat → Nat) (cA : Nat → ClassId) (mo : Nat) (mw : Nat) (mk : Nat) (mp : Nat) (mz : Nat) (me : Nat) (mtb : Nat) (my : Nat) (mx : Nat) (mu : Nat) (mn : Nat) (mg : Nat) (mf : Nat) (mi : Nat) (mh : Nat) (mv : Nat) (ms : Nat) (cnt : Nat) (hf : Int32) (fro : Int32) (fsz : Nat) (isz : Nat) (z : Int32) (rk : Nat) (lf : Int64) (lo : Int64) (frf : Nat → Int32) (i : Int32) (hfs : fsz ≤ 12) : Met l yX6_frameByte (kw_X6_frameByte) ({ frames := 0, cells := 0, slots := 0, locals := 0 }) (va_Pc [.ref mo, .int i] (fun U => kRO dC dI cA [(mo, .inr (6, [.ref mw, .int (nI cnt), .ref mk, .ref mp, .ref mz, .ref me, .ref mtb, .ref my, .ref mx, .ref mu, .ref mn, .ref mg, .int hf, .int fro, .ref mf, .int (nI fsz), .ref mi, .int (nI isz), .int z, .ref mh, .ref mv, .int (nI rk), .long lf, .long lo, .ref ms])), (mf, .inl (cA 0, 12, .inl frf))] U)) (vp_Si (fun r => r = rs_fby hf fsz frf i)) 0 0 (fun _ => False) := by
  refine Met.ofW (cc := cX6_frameByte) (maxL := 2) (ret := (some .int)) (by decide) rfl ?_
  intro p e s m args below meth c s₁ B hml hv
  obtain ⟨rfl, hP, hK, hN⟩ := hv
  have hx := B.exec
  have hb := B.bytes
  have hr := B.returns
  have hts0 := atoms_spec (ws := (kw_X6_frameByte)) B.pre
  have hts : ∀ w ∈ TB, w.before _ s = true := fun w h => hts0 w (List.mem_cons_of_mem _ h)
  have hown : s.vm.findClass RX6 = some m.cls := findClass_of_methodNamed B.named
  have hlocks := B.notSynchronized
  have hk_0 := hts (.fieldLink RX6 107 "FountainRowsModel" "hasFrame" "Z") tb_358
  have hk_1 := hts (.fieldLink RX6 114 "FountainRowsModel" "frameSize" "I") tb_359
  have hk_2 := hts (.fieldLink RX6 44 "FountainRowsModel" "frame" "[I") tb_360
  have hl := lv_entry ([.ref mo, .int i]) (n := 2) (Nat.le_of_ble_eq_true rfl)
  rw [lg_entry_eq]
  generalize (lg_sl ([.ref mo, .int i]) ++ List.replicate (2 - (lg_sl ([.ref mo, .int i])).length) Slot.unset).toArray = ls at hl ⊢
  have hl : lv_has ls 2 [(0, .ref mo), (1, .int i)] := hl
  refine lv_aload_n hx hb dX6_frameByte_0 rfl (lv_at hl 0 rfl) ?_
  refine va_get (D := (dC, dI)) (ci := 6) (v := .int hf) (C := RX6) (T := TX6) (N := 25) hx hb hts inX6 hown hK hP 0 rfl rfl 12 (by decide) hk_0 (fun _ h9 => h9) rfl dX6_frameByte_1 ?_
  refine lv_if_ne (tgt := 12) hx hb dX6_frameByte_4 (by decide) (fun c_1 => ?_) (fun c_1 => ?_)
  · have c_1 : ¬ (hf = 0) := c_1
    refine lv_iload_n hx hb dX6_frameByte_12 rfl (lv_at hl 1 rfl) ?_
    refine lv_if_lt (tgt := 24) hx hb dX6_frameByte_13 (by decide) (fun c_2 => ?_) (fun c_2 => ?_)
    · have c_2 : i < 0 := c_2
      refine lv_iconst (v := (-1)) hx hb dX6_frameByte_24 (by decide) ?_
      refine lv_goto (tgt := 34) hx hb dX6_frameByte_25 (by decide) ?_
      exact W.iret (v := (-1)) hx hb hr (fun t9 ht9 hW9 => ⟨(-1), rfl, (by unfold rs_fby; rw [if_neg c_1, if_pos c_2] <;> rfl), ht9⟩) (fun _ h => absurd h List.not_mem_nil) dX6_frameByte_34
    · have c_2 : ¬ (i < 0) := c_2
      refine lv_iload_n hx hb dX6_frameByte_16 rfl (lv_at hl 1 rfl) ?_
      refine lv_aload_n hx hb dX6_frameByte_17 rfl (lv_at hl 0 rfl) ?_
      refine va_get (D := (dC, dI)) (ci := 6) (v := .int (nI fsz)) (C := RX6) (T := TX6) (N := 25) hx hb hts inX6 hown hK hP 0 rfl rfl 15 (by decide) hk_1 (fun _ h9 => h9) rfl dX6_frameByte_18 ?_
      refine lv_icmp_lt (tgt := 28) hx hb dX6_frameByte_21 (by decide) (fun c_3 => ?_) (fun c_3 => ?_)
      · have c_3 : i < (nI fsz) := c_3
        refine lv_aload_n hx hb dX6_frameByte_28 rfl (lv_at hl 0 rfl) ?_
        refine va_get (D := (dC, dI)) (ci := 6) (v := .ref mf) (C := RX6) (T := TX6) (N := 25) hx hb hts inX6 hown hK hP 0 rfl rfl 14 (by decide) hk_2 (fun _ h9 => h9) rfl dX6_frameByte_29 ?_
        refine lv_iload_n hx hb dX6_frameByte_32 rfl (lv_at hl 1 rfl) ?_
        refine va_iald (D := (dC, dI)) hx hb hK hP 1 0 rfl rfl (rs_in c_2 c_3 hfs) dX6_frameByte_33 ?_
        exact W.iret (v := frf i.toNatClampNeg) hx hb hr (fun t9 ht9 hW9 => ⟨frf i.toNatClampNeg, rfl, (by unfold rs_fby; rw [if_neg c_1, if_neg c_2, if_pos c_3] <;> rfl), ht9⟩) (fun _ h => absurd h List.not_mem_nil) dX6_frameByte_34
      · have c_3 : ¬ (i < (nI fsz)) := c_3
        refine lv_iconst (v := (-1)) hx hb dX6_frameByte_24 (by decide) ?_
        refine lv_goto (tgt := 34) hx hb dX6_frameByte_25 (by decide) ?_
        exact W.iret (v := (-1)) hx hb hr (fun t9 ht9 hW9 => ⟨(-1), rfl, (by unfold rs_fby; rw [if_neg c_1, if_neg c_2, if_neg c_3] <;> rfl), ht9⟩) (fun _ h => absurd h List.not_mem_nil) dX6_frameByte_34
  · have c_1 : hf = 0 := c_1
    refine lv_bipush (v := (-3)) hx hb dX6_frameByte_7 (by decide) ?_
    refine lv_goto (tgt := 34) hx hb dX6_frameByte_9 (by decide) ?_
    exact W.iret (v := (-3)) hx hb hr (fun t9 ht9 hW9 => ⟨(-3), rfl, (by unfold rs_fby; rw [if_pos c_1] <;> rfl), ht9⟩) (fun _ h => absurd h List.not_mem_nil) dX6_frameByte_34
set_option maxHeartbeats 4000000 in
set_option maxRecDepth 100000 in
theorem c_M_poke (l : Launch) (dC : Nat → ClassId) (dI : Nat → Nat → Nat) (cA : Nat → ClassId) (sz : Nat) (mo : Nat) (mw : Nat) (mk : Nat) (mp : Nat) (mz : Nat) (me : Nat) (mtb : Nat) (my : Nat) (mx : Nat) (mu : Nat) (mn : Nat) (mg : Nat) (mf : Nat) (mi : Nat) (mh : Nat) (mv : Nat) (ms : Nat) (cnt : Nat) (hf : Int32) (fro : Int32) (fsz : Nat) (isz : Nat) (z : Int32) (rk : Nat) (lf : Int64) (lo : Int64) (frf : Nat → Int32) (i : Int32) (v : Int32) (hfs : fsz ≤ 12) : Met l yX6_poke (kw_X6_poke) ({ frames := 0, cells := 0, slots := 0, locals := 0 }) (va_Pc [.ref mo, .int i, .int v] (fun U => kRW dC dI cA [(mo, .inr (6, [.ref mw, .int (nI cnt), .ref mk, .ref mp, .ref mz, .ref me, .ref mtb, .ref my, .ref mx, .ref mu, .ref mn, .ref mg, .int hf, .int fro, .ref mf, .int (nI fsz), .ref mi, .int (nI isz), .int z, .ref mh, .ref mv, .int (nI rk), .long lf, .long lo, .ref ms])), (mf, .inl (cA 0, 12, .inl frf))] sz U)) (va_Qi (fun r (u : Unit) => r = rs_poker hf fsz frf i v) (fun (u : Unit) t => kB dC dI (va_A [(mo, .inr (6, [.ref mw, .int (nI cnt), .ref mk, .ref mp, .ref mz, .ref me, .ref mtb, .ref my, .ref mx, .ref mu, .ref mn, .ref mg, .int hf, .int fro, .ref mf, .int (nI fsz), .ref mi, .int (nI isz), .int z, .ref mh, .ref mv, .int (nI rk), .long lf, .long lo, .ref ms])), (mf, .inl (cA 0, 12, .inl frf))] sz) [(mo, .inr (6, [.ref mw, .int (nI cnt), .ref mk, .ref mp, .ref mz, .ref me, .ref mtb, .ref my, .ref mx, .ref mu, .ref mn, .ref mg, .int hf, .int fro, .ref mf, .int (nI fsz), .ref mi, .int (nI isz), .int z, .ref mh, .ref mv, .int (nI rk), .long lf, .long lo, .ref ms])), (mf, .inl (cA 0, 12, .inl (rs_pokef hf fsz frf i v)))] t) (va_A [(mo, .inr (6, [.ref mw, .int (nI cnt), .ref mk, .ref mp, .ref mz, .ref me, .ref mtb, .ref my, .ref mx, .ref mu, .ref mn, .ref mg, .int hf, .int fro, .ref mf, .int (nI fsz), .ref mi, .int (nI isz), .int z, .ref mh, .ref mv, .int (nI rk), .long lf, .long lo, .ref ms])), (mf, .inl (cA 0, 12, .inl frf))] sz)) 0 0 (va_A [(mo, .inr (6, [.ref mw, .int (nI cnt), .ref mk, .ref mp, .ref mz, .ref me, .ref mtb, .ref my, .ref mx, .ref mu, .ref mn, .ref mg, .int hf, .int fro, .ref mf, .int (nI fsz), .ref mi, .int (nI isz), .int z, .ref mh, .ref mv, .int (nI rk), .long lf, .long lo, .ref ms])), (mf, .inl (cA 0, 12, .inl frf))] sz) := by
  refine Met.ofW (cc := cX6_poke) (maxL := 3) (ret := (some .int)) (by decide) rfl ?_
  intro p e s m args below meth c s₁ B hml hv
  obtain ⟨rfl, hsz, hP, hK, hN, hD0⟩ := hv
  have hx := B.exec
  have hb := B.bytes
  have hr := B.returns
  have hts0 := atoms_spec (ws := (kw_X6_poke)) B.pre
  have hts : ∀ w ∈ TB, w.before _ s = true := fun w h => hts0 w (List.mem_cons_of_mem _ h)
  have hown : s.vm.findClass RX6 = some m.cls := findClass_of_methodNamed B.named
  have hlocks := B.notSynchronized
  subst hsz
  have hD := hD0.self (sz := s.heap.size)
  generalize hAe : va_A [(mo, .inr (6, [.ref mw, .int (nI cnt), .ref mk, .ref mp, .ref mz, .ref me, .ref mtb, .ref my, .ref mx, .ref mu, .ref mn, .ref mg, .int hf, .int fro, .ref mf, .int (nI fsz), .ref mi, .int (nI isz), .int z, .ref mh, .ref mv, .int (nI rk), .long lf, .long lo, .ref ms])), (mf, .inl (cA 0, 12, .inl frf))] s.heap.size = A at hD ⊢
  have hA : ∀ q : Nat, s.heap.size ≤ q → A q := fun q h => by rw [← hAe]; exact Or.inr h
  have hS : va_S A s.heap s.heap [] := va_S.rf
  have hk_0 := hts (.fieldLink RX6 107 "FountainRowsModel" "hasFrame" "Z") tb_358
  have hk_1 := hts (.fieldLink RX6 114 "FountainRowsModel" "frameSize" "I") tb_359
  have hk_2 := hts (.fieldLink RX6 44 "FountainRowsModel" "frame" "[I") tb_360
  have hl := lv_entry ([.ref mo, .int i, .int v]) (n := 3) (Nat.le_of_ble_eq_true rfl)
  rw [lg_entry_eq]
  generalize (lg_sl ([.ref mo, .int i, .int v]) ++ List.replicate (3 - (lg_sl ([.ref mo, .int i, .int v])).length) Slot.unset).toArray = ls at hl ⊢
  have hl : lv_has ls 3 [(0, .ref mo), (1, .int i), (2, .int v)] := hl
  refine lv_aload_n hx hb dX6_poke_0 rfl (lv_at hl 0 rfl) ?_
  refine va_get (D := (dC, dI)) (ci := 6) (v := .int hf) (C := RX6) (T := TX6) (N := 25) hx hb hts inX6 hown hK hP 0 rfl rfl 12 (by decide) hk_0 (fun _ h9 => h9) rfl dX6_poke_1 ?_
  refine lv_if_ne (tgt := 10) hx hb dX6_poke_4 (by decide) (fun c_1 => ?_) (fun c_1 => ?_)
  · have c_1 : ¬ (hf = 0) := c_1
    refine lv_iload_n hx hb dX6_poke_10 rfl (lv_at hl 1 rfl) ?_
    refine lv_if_lt (tgt := 22) hx hb dX6_poke_11 (by decide) (fun c_2 => ?_) (fun c_2 => ?_)
    · have c_2 : i < 0 := c_2
      refine lv_iconst (v := (-1)) hx hb dX6_poke_22 (by decide) ?_
      have hP9 := hP.sub (ws' := [(mo, .inr (6, [.ref mw, .int (nI cnt), .ref mk, .ref mp, .ref mz, .ref me, .ref mtb, .ref my, .ref mx, .ref mu, .ref mn, .ref mg, .int hf, .int fro, .ref mf, .int (nI fsz), .ref mi, .int (nI isz), .int z, .ref mh, .ref mv, .int (nI rk), .long lf, .long lo, .ref ms])), (mf, .inl (cA 0, 12, .inl frf))]) [0, 1] rfl
      have hD9 := hD.sub (ws' := [(mo, .inr (6, [.ref mw, .int (nI cnt), .ref mk, .ref mp, .ref mz, .ref me, .ref mtb, .ref my, .ref mx, .ref mu, .ref mn, .ref mg, .int hf, .int fro, .ref mf, .int (nI fsz), .ref mi, .int (nI isz), .int z, .ref mh, .ref mv, .int (nI rk), .long lf, .long lo, .ref ms])), (mf, .inl (cA 0, 12, .inl frf))]) [0, 1] (by decide) rfl
      have e9_0 : rs_pokef hf fsz frf i v = frf := (by unfold rs_pokef; rw [if_neg c_1, if_pos c_2] <;> rfl)
      have e9 : ([(mo, .inr (6, [.ref mw, .int (nI cnt), .ref mk, .ref mp, .ref mz, .ref me, .ref mtb, .ref my, .ref mx, .ref mu, .ref mn, .ref mg, .int hf, .int fro, .ref mf, .int (nI fsz), .ref mi, .int (nI isz), .int z, .ref mh, .ref mv, .int (nI rk), .long lf, .long lo, .ref ms])), (mf, .inl (cA 0, 12, .inl (rs_pokef hf fsz frf i v)))] : va_W) = [(mo, .inr (6, [.ref mw, .int (nI cnt), .ref mk, .ref mp, .ref mz, .ref me, .ref mtb, .ref my, .ref mx, .ref mu, .ref mn, .ref mg, .int hf, .int fro, .ref mf, .int (nI fsz), .ref mi, .int (nI isz), .int z, .ref mh, .ref mv, .int (nI rk), .long lf, .long lo, .ref ms])), (mf, .inl (cA 0, 12, .inl frf))] := by rw [e9_0]
      exact W.iret (v := (-1)) hx hb hr (fun t9 ht9 hW9 => ⟨⟨(-1), (), rfl, (by unfold rs_poker; rw [if_neg c_1, if_pos c_2] <;> rfl), by rw [ht9, e9]; exact hP9, by rw [e9]; exact hD9⟩, hS.F ht9⟩) hS.2.2 dX6_poke_23
    · have c_2 : ¬ (i < 0) := c_2
      refine lv_iload_n hx hb dX6_poke_14 rfl (lv_at hl 1 rfl) ?_
      refine lv_aload_n hx hb dX6_poke_15 rfl (lv_at hl 0 rfl) ?_
      refine va_get (D := (dC, dI)) (ci := 6) (v := .int (nI fsz)) (C := RX6) (T := TX6) (N := 25) hx hb hts inX6 hown hK hP 0 rfl rfl 15 (by decide) hk_1 (fun _ h9 => h9) rfl dX6_poke_16 ?_
      refine lv_icmp_lt (tgt := 24) hx hb dX6_poke_19 (by decide) (fun c_3 => ?_) (fun c_3 => ?_)
      · have c_3 : i < (nI fsz) := c_3
        refine lv_aload_n hx hb dX6_poke_24 rfl (lv_at hl 0 rfl) ?_
        refine va_get (D := (dC, dI)) (ci := 6) (v := .ref mf) (C := RX6) (T := TX6) (N := 25) hx hb hts inX6 hown hK hP 0 rfl rfl 14 (by decide) hk_2 (fun _ h9 => h9) rfl dX6_poke_25 ?_
        refine lv_iload_n hx hb dX6_poke_28 rfl (lv_at hl 1 rfl) ?_
        refine lv_dup2_11 hx hb dX6_poke_29 rfl rfl ?_
        refine va_iald (D := (dC, dI)) hx hb hK hP 1 0 rfl rfl (rs_in c_2 c_3 hfs) dX6_poke_30 ?_
        refine lv_iload_n hx hb dX6_poke_31 rfl (lv_at hl 2 rfl) ?_
        refine lv_sipush (v := 255) hx hb dX6_poke_32 (by decide) ?_
        refine lv_iand hx hb dX6_poke_35 ?_
        refine lv_ixor hx hb dX6_poke_36 ?_
        refine va_iast (D := (dC, dI)) hx hb hK hP hD hS 1 0 rfl rfl (rs_in c_2 c_3 hfs) dX6_poke_37 (fun H locs hP hD hS => ?_)
        have hP : va_P (dC, dI) vwCl [(mo, .inr (6, [.ref mw, .int (nI cnt), .ref mk, .ref mp, .ref mz, .ref me, .ref mtb, .ref my, .ref mx, .ref mu, .ref mn, .ref mg, .int hf, .int fro, .ref mf, .int (nI fsz), .ref mi, .int (nI isz), .int z, .ref mh, .ref mv, .int (nI rk), .long lf, .long lo, .ref ms])), (mf, .inl (cA 0, 12, .inl (upd frf i.toNatClampNeg ((frf i.toNatClampNeg) ^^^ (v &&& 255)))))] H := hP
        have hD : va_D A [(mo, .inr (6, [.ref mw, .int (nI cnt), .ref mk, .ref mp, .ref mz, .ref me, .ref mtb, .ref my, .ref mx, .ref mu, .ref mn, .ref mg, .int hf, .int fro, .ref mf, .int (nI fsz), .ref mi, .int (nI isz), .int z, .ref mh, .ref mv, .int (nI rk), .long lf, .long lo, .ref ms])), (mf, .inl (cA 0, 12, .inl (upd frf i.toNatClampNeg ((frf i.toNatClampNeg) ^^^ (v &&& 255)))))] := hD
        refine lv_aload_n hx hb dX6_poke_38 rfl (lv_at hl 0 rfl) ?_
        refine va_get (D := (dC, dI)) (ci := 6) (v := .ref mf) (C := RX6) (T := TX6) (N := 25) hx hb hts inX6 hown hK hP 0 rfl rfl 14 (by decide) hk_2 (fun _ h9 => h9) rfl dX6_poke_39 ?_
        refine lv_iload_n hx hb dX6_poke_42 rfl (lv_at hl 1 rfl) ?_
        refine va_iald (D := (dC, dI)) hx hb hK hP 1 0 rfl rfl (rs_in c_2 c_3 hfs) dX6_poke_43 ?_
        have hP9 := hP.sub (ws' := [(mo, .inr (6, [.ref mw, .int (nI cnt), .ref mk, .ref mp, .ref mz, .ref me, .ref mtb, .ref my, .ref mx, .ref mu, .ref mn, .ref mg, .int hf, .int fro, .ref mf, .int (nI fsz), .ref mi, .int (nI isz), .int z, .ref mh, .ref mv, .int (nI rk), .long lf, .long lo, .ref ms])), (mf, .inl (cA 0, 12, .inl (upd frf i.toNatClampNeg ((frf i.toNatClampNeg) ^^^ (v &&& 255)))))]) [0, 1] rfl
        have hD9 := hD.sub (ws' := [(mo, .inr (6, [.ref mw, .int (nI cnt), .ref mk, .ref mp, .ref mz, .ref me, .ref mtb, .ref my, .ref mx, .ref mu, .ref mn, .ref mg, .int hf, .int fro, .ref mf, .int (nI fsz), .ref mi, .int (nI isz), .int z, .ref mh, .ref mv, .int (nI rk), .long lf, .long lo, .ref ms])), (mf, .inl (cA 0, 12, .inl (upd frf i.toNatClampNeg ((frf i.toNatClampNeg) ^^^ (v &&& 255)))))]) [0, 1] (by decide) rfl
        have e9_0 : rs_pokef hf fsz frf i v = upd frf i.toNatClampNeg ((frf i.toNatClampNeg) ^^^ (v &&& 255)) := (by unfold rs_pokef; rw [if_neg c_1, if_neg c_2, if_pos c_3] <;> rfl)
        have e9 : ([(mo, .inr (6, [.ref mw, .int (nI cnt), .ref mk, .ref mp, .ref mz, .ref me, .ref mtb, .ref my, .ref mx, .ref mu, .ref mn, .ref mg, .int hf, .int fro, .ref mf, .int (nI fsz), .ref mi, .int (nI isz), .int z, .ref mh, .ref mv, .int (nI rk), .long lf, .long lo, .ref ms])), (mf, .inl (cA 0, 12, .inl (rs_pokef hf fsz frf i v)))] : va_W) = [(mo, .inr (6, [.ref mw, .int (nI cnt), .ref mk, .ref mp, .ref mz, .ref me, .ref mtb, .ref my, .ref mx, .ref mu, .ref mn, .ref mg, .int hf, .int fro, .ref mf, .int (nI fsz), .ref mi, .int (nI isz), .int z, .ref mh, .ref mv, .int (nI rk), .long lf, .long lo, .ref ms])), (mf, .inl (cA 0, 12, .inl (upd frf i.toNatClampNeg ((frf i.toNatClampNeg) ^^^ (v &&& 255)))))] := by rw [e9_0]
        exact W.iret (v := (upd frf i.toNatClampNeg ((frf i.toNatClampNeg) ^^^ (v &&& 255))) i.toNatClampNeg) hx hb hr (fun t9 ht9 hW9 => ⟨⟨(upd frf i.toNatClampNeg ((frf i.toNatClampNeg) ^^^ (v &&& 255))) i.toNatClampNeg, (), rfl, (by unfold rs_poker; rw [if_neg c_1, if_neg c_2, if_pos c_3] <;> rfl), by rw [ht9, e9]; exact hP9, by rw [e9]; exact hD9⟩, hS.F ht9⟩) hS.2.2 dX6_poke_44
      · have c_3 : ¬ (i < (nI fsz)) := c_3
        refine lv_iconst (v := (-1)) hx hb dX6_poke_22 (by decide) ?_
        have hP9 := hP.sub (ws' := [(mo, .inr (6, [.ref mw, .int (nI cnt), .ref mk, .ref mp, .ref mz, .ref me, .ref mtb, .ref my, .ref mx, .ref mu, .ref mn, .ref mg, .int hf, .int fro, .ref mf, .int (nI fsz), .ref mi, .int (nI isz), .int z, .ref mh, .ref mv, .int (nI rk), .long lf, .long lo, .ref ms])), (mf, .inl (cA 0, 12, .inl frf))]) [0, 1] rfl
        have hD9 := hD.sub (ws' := [(mo, .inr (6, [.ref mw, .int (nI cnt), .ref mk, .ref mp, .ref mz, .ref me, .ref mtb, .ref my, .ref mx, .ref mu, .ref mn, .ref mg, .int hf, .int fro, .ref mf, .int (nI fsz), .ref mi, .int (nI isz), .int z, .ref mh, .ref mv, .int (nI rk), .long lf, .long lo, .ref ms])), (mf, .inl (cA 0, 12, .inl frf))]) [0, 1] (by decide) rfl
        have e9_0 : rs_pokef hf fsz frf i v = frf := (by unfold rs_pokef; rw [if_neg c_1, if_neg c_2, if_neg c_3] <;> rfl)
        have e9 : ([(mo, .inr (6, [.ref mw, .int (nI cnt), .ref mk, .ref mp, .ref mz, .ref me, .ref mtb, .ref my, .ref mx, .ref mu, .ref mn, .ref mg, .int hf, .int fro, .ref mf, .int (nI fsz), .ref mi, .int (nI isz), .int z, .ref mh, .ref mv, .int (nI rk), .long lf, .long lo, .ref ms])), (mf, .inl (cA 0, 12, .inl (rs_pokef hf fsz frf i v)))] : va_W) = [(mo, .inr (6, [.ref mw, .int (nI cnt), .ref mk, .ref mp, .ref mz, .ref me, .ref mtb, .ref my, .ref mx, .ref mu, .ref mn, .ref mg, .int hf, .int fro, .ref mf, .int (nI fsz), .ref mi, .int (nI isz), .int z, .ref mh, .ref mv, .int (nI rk), .long lf, .long lo, .ref ms])), (mf, .inl (cA 0, 12, .inl frf))] := by rw [e9_0]
        exact W.iret (v := (-1)) hx hb hr (fun t9 ht9 hW9 => ⟨⟨(-1), (), rfl, (by unfold rs_poker; rw [if_neg c_1, if_neg c_2, if_neg c_3] <;> rfl), by rw [ht9, e9]; exact hP9, by rw [e9]; exact hD9⟩, hS.F ht9⟩) hS.2.2 dX6_poke_23
  · have c_1 : hf = 0 := c_1
    refine lv_bipush (v := (-3)) hx hb dX6_poke_7 (by decide) ?_
    have hP9 := hP.sub (ws' := [(mo, .inr (6, [.ref mw, .int (nI cnt), .ref mk, .ref mp, .ref mz, .ref me, .ref mtb, .ref my, .ref mx, .ref mu, .ref mn, .ref mg, .int hf, .int fro, .ref mf, .int (nI fsz), .ref mi, .int (nI isz), .int z, .ref mh, .ref mv, .int (nI rk), .long lf, .long lo, .ref ms])), (mf, .inl (cA 0, 12, .inl frf))]) [0, 1] rfl
    have hD9 := hD.sub (ws' := [(mo, .inr (6, [.ref mw, .int (nI cnt), .ref mk, .ref mp, .ref mz, .ref me, .ref mtb, .ref my, .ref mx, .ref mu, .ref mn, .ref mg, .int hf, .int fro, .ref mf, .int (nI fsz), .ref mi, .int (nI isz), .int z, .ref mh, .ref mv, .int (nI rk), .long lf, .long lo, .ref ms])), (mf, .inl (cA 0, 12, .inl frf))]) [0, 1] (by decide) rfl
    have e9_0 : rs_pokef hf fsz frf i v = frf := (by unfold rs_pokef; rw [if_pos c_1] <;> rfl)
    have e9 : ([(mo, .inr (6, [.ref mw, .int (nI cnt), .ref mk, .ref mp, .ref mz, .ref me, .ref mtb, .ref my, .ref mx, .ref mu, .ref mn, .ref mg, .int hf, .int fro, .ref mf, .int (nI fsz), .ref mi, .int (nI isz), .int z, .ref mh, .ref mv, .int (nI rk), .long lf, .long lo, .ref ms])), (mf, .inl (cA 0, 12, .inl (rs_pokef hf fsz frf i v)))] : va_W) = [(mo, .inr (6, [.ref mw, .int (nI cnt), .ref mk, .ref mp, .ref mz, .ref me, .ref mtb, .ref my, .ref mx, .ref mu, .ref mn, .ref mg, .int hf, .int fro, .ref mf, .int (nI fsz), .ref mi, .int (nI isz), .int z, .ref mh, .ref mv, .int (nI rk), .long lf, .long lo, .ref ms])), (mf, .inl (cA 0, 12, .inl frf))] := by rw [e9_0]
    exact W.iret (v := (-3)) hx hb hr (fun t9 ht9 hW9 => ⟨⟨(-3), (), rfl, (by unfold rs_poker; rw [if_pos c_1] <;> rfl), by rw [ht9, e9]; exact hP9, by rw [e9]; exact hD9⟩, hS.F ht9⟩) hS.2.2 dX6_poke_9
set_option maxHeartbeats 4000000 in
set_option maxRecDepth 100000 in
theorem c_M_sign (l : Launch) (dC : Nat → ClassId) (dI : Nat → Nat → Nat) (cA : Nat → ClassId) (sz : Nat) (mo : Nat) (mw : Nat) (mk : Nat) (mp : Nat) (mz : Nat) (me : Nat) (mtb : Nat) (my : Nat) (mx : Nat) (mu : Nat) (mn : Nat) (mg : Nat) (mf : Nat) (mi : Nat) (mh : Nat) (mv : Nat) (ms : Nat) (cnt : Nat) (hf : Int32) (fro : Int32) (fsz : Nat) (isz : Nat) (z : Int32) (rk : Nat) (lf : Int64) (lo : Int64) (frf : Nat → Int32) (hfs : fsz ≤ 12) (hfs2 : ¬ hf = 0 → 2 ≤ fsz) : Met l yX6_sign (kw_X6_sign) ({ frames := 1, cells := 0, slots := 0, locals := 25 }) (va_Pc [.ref mo] (fun U => kRW dC dI cA [(mo, .inr (6, [.ref mw, .int (nI cnt), .ref mk, .ref mp, .ref mz, .ref me, .ref mtb, .ref my, .ref mx, .ref mu, .ref mn, .ref mg, .int hf, .int fro, .ref mf, .int (nI fsz), .ref mi, .int (nI isz), .int z, .ref mh, .ref mv, .int (nI rk), .long lf, .long lo, .ref ms])), (mf, .inl (cA 0, 12, .inl frf))] sz U)) (va_Qi (fun r (u : Unit) => r = rs_signr hf fsz frf) (fun (u : Unit) t => kB dC dI (va_A [(mo, .inr (6, [.ref mw, .int (nI cnt), .ref mk, .ref mp, .ref mz, .ref me, .ref mtb, .ref my, .ref mx, .ref mu, .ref mn, .ref mg, .int hf, .int fro, .ref mf, .int (nI fsz), .ref mi, .int (nI isz), .int z, .ref mh, .ref mv, .int (nI rk), .long lf, .long lo, .ref ms])), (mf, .inl (cA 0, 12, .inl frf))] sz) [(mo, .inr (6, [.ref mw, .int (nI cnt), .ref mk, .ref mp, .ref mz, .ref me, .ref mtb, .ref my, .ref mx, .ref mu, .ref mn, .ref mg, .int hf, .int fro, .ref mf, .int (nI fsz), .ref mi, .int (nI isz), .int z, .ref mh, .ref mv, .int (nI rk), .long lf, .long lo, .ref ms])), (mf, .inl (cA 0, 12, .inl (rs_signf hf fsz frf)))] t) (va_A [(mo, .inr (6, [.ref mw, .int (nI cnt), .ref mk, .ref mp, .ref mz, .ref me, .ref mtb, .ref my, .ref mx, .ref mu, .ref mn, .ref mg, .int hf, .int fro, .ref mf, .int (nI fsz), .ref mi, .int (nI isz), .int z, .ref mh, .ref mv, .int (nI rk), .long lf, .long lo, .ref ms])), (mf, .inl (cA 0, 12, .inl frf))] sz)) 0 0 (va_A [(mo, .inr (6, [.ref mw, .int (nI cnt), .ref mk, .ref mp, .ref mz, .ref me, .ref mtb, .ref my, .ref mx, .ref mu, .ref mn, .ref mg, .int hf, .int fro, .ref mf, .int (nI fsz), .ref mi, .int (nI isz), .int z, .ref mh, .ref mv, .int (nI rk), .long lf, .long lo, .ref ms])), (mf, .inl (cA 0, 12, .inl frf))] sz) := by
  refine Met.ofW (cc := cX6_sign) (maxL := 2) (ret := (some .int)) (by decide) rfl ?_
  intro p e s m args below meth c s₁ B hml hv
  obtain ⟨rfl, hsz, hP, hK, hN, hD0⟩ := hv
  have hx := B.exec
  have hb := B.bytes
  have hr := B.returns
  have hts0 := atoms_spec (ws := (kw_X6_sign)) B.pre
  have hts : ∀ w ∈ TB, w.before _ s = true := fun w h => hts0 w (List.mem_cons_of_mem _ h)
  have hown : s.vm.findClass RX6 = some m.cls := findClass_of_methodNamed B.named
  have hlocks := B.notSynchronized
  subst hsz
  have hD := hD0.self (sz := s.heap.size)
  generalize hAe : va_A [(mo, .inr (6, [.ref mw, .int (nI cnt), .ref mk, .ref mp, .ref mz, .ref me, .ref mtb, .ref my, .ref mx, .ref mu, .ref mn, .ref mg, .int hf, .int fro, .ref mf, .int (nI fsz), .ref mi, .int (nI isz), .int z, .ref mh, .ref mv, .int (nI rk), .long lf, .long lo, .ref ms])), (mf, .inl (cA 0, 12, .inl frf))] s.heap.size = A at hD ⊢
  have hA : ∀ q : Nat, s.heap.size ≤ q → A q := fun q h => by rw [← hAe]; exact Or.inr h
  have hS : va_S A s.heap s.heap [] := va_S.rf
  have hk_0 := hts (.fieldLink RX6 107 "FountainRowsModel" "hasFrame" "Z") tb_358
  have hk_1 := hts (.fieldLink RX6 44 "FountainRowsModel" "frame" "[I") tb_360
  have hk_2 := hts (.fieldLink RX6 114 "FountainRowsModel" "frameSize" "I") tb_359
  have hl := lv_entry ([.ref mo]) (n := 2) (Nat.le_of_ble_eq_true rfl)
  rw [lg_entry_eq]
  generalize (lg_sl ([.ref mo]) ++ List.replicate (2 - (lg_sl ([.ref mo])).length) Slot.unset).toArray = ls at hl ⊢
  have hl : lv_has ls 2 [(0, .ref mo)] := hl
  refine lv_aload_n hx hb dX6_sign_0 rfl (lv_at hl 0 rfl) ?_
  refine va_get (D := (dC, dI)) (ci := 6) (v := .int hf) (C := RX6) (T := TX6) (N := 25) hx hb hts inX6 hown hK hP 0 rfl rfl 12 (by decide) hk_0 (fun _ h9 => h9) rfl dX6_sign_1 ?_
  refine lv_if_ne (tgt := 10) hx hb dX6_sign_4 (by decide) (fun c_1 => ?_) (fun c_1 => ?_)
  · have c_1 : ¬ (hf = 0) := c_1
    have h0 := c_1
    have h2 := hfs2 h0
    refine lv_aload_n hx hb dX6_sign_10 rfl (lv_at hl 0 rfl) ?_
    refine lv_aload_n hx hb dX6_sign_11 rfl (lv_at hl 0 rfl) ?_
    refine va_get (D := (dC, dI)) (ci := 6) (v := .ref mf) (C := RX6) (T := TX6) (N := 25) hx hb hts inX6 hown hK hP 0 rfl rfl 14 (by decide) hk_1 (fun _ h9 => h9) rfl dX6_sign_12 ?_
    refine lv_aload_n hx hb dX6_sign_15 rfl (lv_at hl 0 rfl) ?_
    refine va_get (D := (dC, dI)) (ci := 6) (v := .int (nI fsz)) (C := RX6) (T := TX6) (N := 25) hx hb hts inX6 hown hK hP 0 rfl rfl 15 (by decide) hk_2 (fun _ h9 => h9) rfl dX6_sign_16 ?_
    refine lv_iconst (v := 2) hx hb dX6_sign_19 (by decide) ?_
    refine lv_isub hx hb dX6_sign_20 ?_
    refine kt_i (y := nI (fsz - 2)) (pk_sub (a := fsz) (b := 2) (by omega)) ?_
    have hPc := hP.sub (ws' := [(mo, .inr (6, [.ref mw, .int (nI cnt), .ref mk, .ref mp, .ref mz, .ref me, .ref mtb, .ref my, .ref mx, .ref mu, .ref mn, .ref mg, .int hf, .int fro, .ref mf, .int (nI fsz), .ref mi, .int (nI isz), .int z, .ref mh, .ref mv, .int (nI rk), .long lf, .long lo, .ref ms])), (mf, .inl (cA 0, 12, .inl frf))]) [0, 1] rfl
    refine kq_csi (va_runV (As := [.ref mf, .int (nI (fsz - 2))]) (rest := []) ⟨hx, hb, hml, hown, hts⟩ (c_M_sum l dC dI cA mo mw mk mp mz me mtb my mx mu mn mg mf mi mh mv ms cnt hf fro fsz isz z rk lf lo mf 12 frf (fsz - 2) (by omega) (by decide)) (cwV 2 hts (kg_V tb_362 tb_363 tb_364 tb_318 tb_361) rfl rfl rfl (by decide +kernel) ⟨Nat.le_of_ble_eq_true rfl, Nat.le_of_ble_eq_true rfl⟩) (kpv_ro hK hN hPc (ci := 6) (q0 := 0) rfl rfl rfl) rfl rfl hl.1 rfl (lv_room (Nat.le_of_ble_eq_true rfl)) dX6_sign_21 ⟨Nat.le_of_ble_eq_true rfl, Nat.le_of_ble_eq_true rfl⟩) (fun r_2 hr_2 => ?_)
    refine kt_i (y := rs_crc frf (fsz - 2)) hr_2 ?_
    refine lv_istore_n (lv' := [(1, .int (rs_crc frf (fsz - 2))), (0, .ref mo)]) hx hb dX6_sign_24 rfl hl (by decide) rfl (fun ls hl => ?_)
    refine lv_aload_n hx hb dX6_sign_25 rfl (lv_at hl 1 rfl) ?_
    refine va_get (D := (dC, dI)) (ci := 6) (v := .ref mf) (C := RX6) (T := TX6) (N := 25) hx hb hts inX6 hown hK hP 0 rfl rfl 14 (by decide) hk_1 (fun _ h9 => h9) rfl dX6_sign_26 ?_
    refine lv_aload_n hx hb dX6_sign_29 rfl (lv_at hl 1 rfl) ?_
    refine va_get (D := (dC, dI)) (ci := 6) (v := .int (nI fsz)) (C := RX6) (T := TX6) (N := 25) hx hb hts inX6 hown hK hP 0 rfl rfl 15 (by decide) hk_2 (fun _ h9 => h9) rfl dX6_sign_30 ?_
    refine lv_iconst (v := 2) hx hb dX6_sign_33 (by decide) ?_
    refine lv_isub hx hb dX6_sign_34 ?_
    refine kt_i (y := nI (fsz - 2)) (pk_sub (a := fsz) (b := 2) (by omega)) ?_
    refine lv_iload_n hx hb dX6_sign_35 rfl (lv_at hl 0 rfl) ?_
    refine lv_bipush (v := 8) hx hb dX6_sign_36 (by decide) ?_
    refine lv_ishr hx hb dX6_sign_38 ?_
    refine va_iast (D := (dC, dI)) hx hb hK hP hD hS 1 0 rfl rfl (vp_in_nI (by omega) (by omega)) dX6_sign_39 (fun H locs hP hD hS => ?_)
    rw [nI_clamp (by omega : (fsz - 2) < 2 ^ 31)] at hP hD
    have hP : va_P (dC, dI) vwCl [(mo, .inr (6, [.ref mw, .int (nI cnt), .ref mk, .ref mp, .ref mz, .ref me, .ref mtb, .ref my, .ref mx, .ref mu, .ref mn, .ref mg, .int hf, .int fro, .ref mf, .int (nI fsz), .ref mi, .int (nI isz), .int z, .ref mh, .ref mv, .int (nI rk), .long lf, .long lo, .ref ms])), (mf, .inl (cA 0, 12, .inl (upd frf (fsz - 2) ((rs_crc frf (fsz - 2)) >>> ((8 : Int32) &&& 31)))))] H := hP
    have hD : va_D A [(mo, .inr (6, [.ref mw, .int (nI cnt), .ref mk, .ref mp, .ref mz, .ref me, .ref mtb, .ref my, .ref mx, .ref mu, .ref mn, .ref mg, .int hf, .int fro, .ref mf, .int (nI fsz), .ref mi, .int (nI isz), .int z, .ref mh, .ref mv, .int (nI rk), .long lf, .long lo, .ref ms])), (mf, .inl (cA 0, 12, .inl (upd frf (fsz - 2) ((rs_crc frf (fsz - 2)) >>> ((8 : Int32) &&& 31)))))] := hD
    refine lv_aload_n hx hb dX6_sign_40 rfl (lv_at hl 1 rfl) ?_
    refine va_get (D := (dC, dI)) (ci := 6) (v := .ref mf) (C := RX6) (T := TX6) (N := 25) hx hb hts inX6 hown hK hP 0 rfl rfl 14 (by decide) hk_1 (fun _ h9 => h9) rfl dX6_sign_41 ?_
    refine lv_aload_n hx hb dX6_sign_44 rfl (lv_at hl 1 rfl) ?_
    refine va_get (D := (dC, dI)) (ci := 6) (v := .int (nI fsz)) (C := RX6) (T := TX6) (N := 25) hx hb hts inX6 hown hK hP 0 rfl rfl 15 (by decide) hk_2 (fun _ h9 => h9) rfl dX6_sign_45 ?_
    refine lv_iconst (v := 1) hx hb dX6_sign_48 (by decide) ?_
    refine lv_isub hx hb dX6_sign_49 ?_
    refine kt_i (y := nI (fsz - 1)) (pk_sub (a := fsz) (b := 1) (by omega)) ?_
    refine lv_iload_n hx hb dX6_sign_50 rfl (lv_at hl 0 rfl) ?_
    refine lv_sipush (v := 255) hx hb dX6_sign_51 (by decide) ?_
    refine lv_iand hx hb dX6_sign_54 ?_
    refine va_iast (D := (dC, dI)) hx hb hK hP hD hS 1 0 rfl rfl (vp_in_nI (by omega) (by omega)) dX6_sign_55 (fun H locs hP hD hS => ?_)
    rw [nI_clamp (by omega : (fsz - 1) < 2 ^ 31)] at hP hD
    have hP : va_P (dC, dI) vwCl [(mo, .inr (6, [.ref mw, .int (nI cnt), .ref mk, .ref mp, .ref mz, .ref me, .ref mtb, .ref my, .ref mx, .ref mu, .ref mn, .ref mg, .int hf, .int fro, .ref mf, .int (nI fsz), .ref mi, .int (nI isz), .int z, .ref mh, .ref mv, .int (nI rk), .long lf, .long lo, .ref ms])), (mf, .inl (cA 0, 12, .inl (upd (upd frf (fsz - 2) ((rs_crc frf (fsz - 2)) >>> ((8 : Int32) &&& 31))) (fsz - 1) ((rs_crc frf (fsz - 2)) &&& 255))))] H := hP
    have hD : va_D A [(mo, .inr (6, [.ref mw, .int (nI cnt), .ref mk, .ref mp, .ref mz, .ref me, .ref mtb, .ref my, .ref mx, .ref mu, .ref mn, .ref mg, .int hf, .int fro, .ref mf, .int (nI fsz), .ref mi, .int (nI isz), .int z, .ref mh, .ref mv, .int (nI rk), .long lf, .long lo, .ref ms])), (mf, .inl (cA 0, 12, .inl (upd (upd frf (fsz - 2) ((rs_crc frf (fsz - 2)) >>> ((8 : Int32) &&& 31))) (fsz - 1) ((rs_crc frf (fsz - 2)) &&& 255))))] := hD
    refine lv_iload_n hx hb dX6_sign_56 rfl (lv_at hl 0 rfl) ?_
    have hP9 := hP.sub (ws' := [(mo, .inr (6, [.ref mw, .int (nI cnt), .ref mk, .ref mp, .ref mz, .ref me, .ref mtb, .ref my, .ref mx, .ref mu, .ref mn, .ref mg, .int hf, .int fro, .ref mf, .int (nI fsz), .ref mi, .int (nI isz), .int z, .ref mh, .ref mv, .int (nI rk), .long lf, .long lo, .ref ms])), (mf, .inl (cA 0, 12, .inl (upd (upd frf (fsz - 2) ((rs_crc frf (fsz - 2)) >>> ((8 : Int32) &&& 31))) (fsz - 1) ((rs_crc frf (fsz - 2)) &&& 255))))]) [0, 1] rfl
    have hD9 := hD.sub (ws' := [(mo, .inr (6, [.ref mw, .int (nI cnt), .ref mk, .ref mp, .ref mz, .ref me, .ref mtb, .ref my, .ref mx, .ref mu, .ref mn, .ref mg, .int hf, .int fro, .ref mf, .int (nI fsz), .ref mi, .int (nI isz), .int z, .ref mh, .ref mv, .int (nI rk), .long lf, .long lo, .ref ms])), (mf, .inl (cA 0, 12, .inl (upd (upd frf (fsz - 2) ((rs_crc frf (fsz - 2)) >>> ((8 : Int32) &&& 31))) (fsz - 1) ((rs_crc frf (fsz - 2)) &&& 255))))]) [0, 1] (by decide) rfl
    have e9_0 : (rs_signf hf fsz frf) = upd (upd frf (fsz - 2) ((rs_crc frf (fsz - 2)) >>> ((8 : Int32) &&& 31))) (fsz - 1) ((rs_crc frf (fsz - 2)) &&& 255) := (by unfold rs_signf; first | rw [if_pos h0] | rw [if_neg h0])
    have e9 : ([(mo, .inr (6, [.ref mw, .int (nI cnt), .ref mk, .ref mp, .ref mz, .ref me, .ref mtb, .ref my, .ref mx, .ref mu, .ref mn, .ref mg, .int hf, .int fro, .ref mf, .int (nI fsz), .ref mi, .int (nI isz), .int z, .ref mh, .ref mv, .int (nI rk), .long lf, .long lo, .ref ms])), (mf, .inl (cA 0, 12, .inl (rs_signf hf fsz frf)))] : va_W) = [(mo, .inr (6, [.ref mw, .int (nI cnt), .ref mk, .ref mp, .ref mz, .ref me, .ref mtb, .ref my, .ref mx, .ref mu, .ref mn, .ref mg, .int hf, .int fro, .ref mf, .int (nI fsz), .ref mi, .int (nI isz), .int z, .ref mh, .ref mv, .int (nI rk), .long lf, .long lo, .ref ms])), (mf, .inl (cA 0, 12, .inl (upd (upd frf (fsz - 2) ((rs_crc frf (fsz - 2)) >>> ((8 : Int32) &&& 31))) (fsz - 1) ((rs_crc frf (fsz - 2)) &&& 255))))] := by rw [e9_0]
    exact W.iret (v := rs_crc frf (fsz - 2)) hx hb hr (fun t9 ht9 hW9 => ⟨⟨rs_crc frf (fsz - 2), (), rfl, (by unfold rs_signr; rw [if_neg h0]), by rw [ht9, e9]; exact hP9, by rw [e9]; exact hD9⟩, hS.F ht9⟩) hS.2.2 dX6_sign_57
  · have c_1 : hf = 0 := c_1
    have h0 := c_1
    refine lv_bipush (v := (-3)) hx hb dX6_sign_7 (by decide) ?_
    have hP9 := hP.sub (ws' := [(mo, .inr (6, [.ref mw, .int (nI cnt), .ref mk, .ref mp, .ref mz, .ref me, .ref mtb, .ref my, .ref mx, .ref mu, .ref mn, .ref mg, .int hf, .int fro, .ref mf, .int (nI fsz), .ref mi, .int (nI isz), .int z, .ref mh, .ref mv, .int (nI rk), .long lf, .long lo, .ref ms])), (mf, .inl (cA 0, 12, .inl frf))]) [0, 1] rfl
    have hD9 := hD.sub (ws' := [(mo, .inr (6, [.ref mw, .int (nI cnt), .ref mk, .ref mp, .ref mz, .ref me, .ref mtb, .ref my, .ref mx, .ref mu, .ref mn, .ref mg, .int hf, .int fro, .ref mf, .int (nI fsz), .ref mi, .int (nI isz), .int z, .ref mh, .ref mv, .int (nI rk), .long lf, .long lo, .ref ms])), (mf, .inl (cA 0, 12, .inl frf))]) [0, 1] (by decide) rfl
    have e9_0 : (rs_signf hf fsz frf) = frf := (by unfold rs_signf; first | rw [if_pos h0] | rw [if_neg h0])
    have e9 : ([(mo, .inr (6, [.ref mw, .int (nI cnt), .ref mk, .ref mp, .ref mz, .ref me, .ref mtb, .ref my, .ref mx, .ref mu, .ref mn, .ref mg, .int hf, .int fro, .ref mf, .int (nI fsz), .ref mi, .int (nI isz), .int z, .ref mh, .ref mv, .int (nI rk), .long lf, .long lo, .ref ms])), (mf, .inl (cA 0, 12, .inl (rs_signf hf fsz frf)))] : va_W) = [(mo, .inr (6, [.ref mw, .int (nI cnt), .ref mk, .ref mp, .ref mz, .ref me, .ref mtb, .ref my, .ref mx, .ref mu, .ref mn, .ref mg, .int hf, .int fro, .ref mf, .int (nI fsz), .ref mi, .int (nI isz), .int z, .ref mh, .ref mv, .int (nI rk), .long lf, .long lo, .ref ms])), (mf, .inl (cA 0, 12, .inl frf))] := by rw [e9_0]
    exact W.iret (v := (-3)) hx hb hr (fun t9 ht9 hW9 => ⟨⟨(-3), (), rfl, (by unfold rs_signr; rw [if_pos h0]), by rw [ht9, e9]; exact hP9, by rw [e9]; exact hD9⟩, hS.F ht9⟩) hS.2.2 dX6_sign_9
