set_option maxHeartbeats 4000000 in
set_option maxRecDepth 100000 in
theorem c_M_sumOf (l : Launch) (dC : Nat → ClassId) (dI : Nat → Nat → Nat) (cA : Nat → ClassId) (sz : Nat) (mo : Nat) (mw : Nat) (mk : Nat) (mp : Nat) (mz : Nat) (me : Nat) (mtb : Nat) (my : Nat) (mx : Nat) (mu : Nat) (mn : Nat) (mg : Nat) (mf : Nat) (mi : Nat) (mh : Nat) (mv : Nat) (ms : Nat) (cnt : Nat) (hf : Int32) (fro : Int32) (fsz : Nat) (isz : Nat) (z : Int32) (rk : Nat) (lf : Int64) (lo : Int64) (kf : Nat → Int32) (ef : Nat → Int32) (j : Nat) (K : Nat) (seed : Int32) (jj : Int32) (hj4 : j < 4) (hkf : kf j = nI K) (hef : ef j = seed) (hK32 : K ≤ 32) : Met l yX6_sumOf (kw_X6_sumOf) ({ frames := 1, cells := 0, slots := 0, locals := 20 }) (va_Pc [.ref mo, .int (nI j), .int jj] (fun U => kRW dC dI cA [(mo, .inr (6, [.ref mw, .int (nI cnt), .ref mk, .ref mp, .ref mz, .ref me, .ref mtb, .ref my, .ref mx, .ref mu, .ref mn, .ref mg, .int hf, .int fro, .ref mf, .int (nI fsz), .ref mi, .int (nI isz), .int z, .ref mh, .ref mv, .int (nI rk), .long lf, .long lo, .ref ms])), (mk, .inl (cA 0, 4, .inl kf)), (me, .inl (cA 0, 4, .inl ef))] sz U)) (va_Ql (fun r (u : Int32) => r = rs_sb (seed + (40503 * (jj + 1))) K) (fun (u : Int32) t => kB dC dI (va_A [(mo, .inr (6, [.ref mw, .int (nI cnt), .ref mk, .ref mp, .ref mz, .ref me, .ref mtb, .ref my, .ref mx, .ref mu, .ref mn, .ref mg, .int hf, .int fro, .ref mf, .int (nI fsz), .ref mi, .int (nI isz), .int z, .ref mh, .ref mv, .int (nI rk), .long lf, .long lo, .ref ms])), (mk, .inl (cA 0, 4, .inl kf)), (me, .inl (cA 0, 4, .inl ef))] sz) [(mo, .inr (6, [.ref mw, .int (nI cnt), .ref mk, .ref mp, .ref mz, .ref me, .ref mtb, .ref my, .ref mx, .ref mu, .ref mn, .ref mg, .int hf, .int fro, .ref mf, .int (nI fsz), .ref mi, .int (nI isz), .int u, .ref mh, .ref mv, .int (nI rk), .long lf, .long lo, .ref ms])), (mk, .inl (cA 0, 4, .inl kf)), (me, .inl (cA 0, 4, .inl ef))] t) (va_A [(mo, .inr (6, [.ref mw, .int (nI cnt), .ref mk, .ref mp, .ref mz, .ref me, .ref mtb, .ref my, .ref mx, .ref mu, .ref mn, .ref mg, .int hf, .int fro, .ref mf, .int (nI fsz), .ref mi, .int (nI isz), .int z, .ref mh, .ref mv, .int (nI rk), .long lf, .long lo, .ref ms])), (mk, .inl (cA 0, 4, .inl kf)), (me, .inl (cA 0, 4, .inl ef))] sz)) 0 0 (va_A [(mo, .inr (6, [.ref mw, .int (nI cnt), .ref mk, .ref mp, .ref mz, .ref me, .ref mtb, .ref my, .ref mx, .ref mu, .ref mn, .ref mg, .int hf, .int fro, .ref mf, .int (nI fsz), .ref mi, .int (nI isz), .int z, .ref mh, .ref mv, .int (nI rk), .long lf, .long lo, .ref ms])), (mk, .inl (cA 0, 4, .inl kf)), (me, .inl (cA 0, 4, .inl ef))] sz) := by
  refine Met.ofW (cc := cX6_sumOf) (maxL := 6) (ret := (some .long)) (by decide) rfl ?_
  intro p e s m args below meth c s₁ B hml hv
  obtain ⟨rfl, hsz, hP, hK, hN, hD0⟩ := hv
  have hx := B.exec
  have hb := B.bytes
  have hr := B.returns
  have hts0 := atoms_spec (ws := (kw_X6_sumOf)) B.pre
  have hts : ∀ w ∈ TB, w.before _ s = true := fun w h => hts0 w (List.mem_cons_of_mem _ h)
  have hown : s.vm.findClass RX6 = some m.cls := findClass_of_methodNamed B.named
  have hlocks := B.notSynchronized
  subst hsz
  have hD := hD0.self (sz := s.heap.size)
  generalize hAe : va_A [(mo, .inr (6, [.ref mw, .int (nI cnt), .ref mk, .ref mp, .ref mz, .ref me, .ref mtb, .ref my, .ref mx, .ref mu, .ref mn, .ref mg, .int hf, .int fro, .ref mf, .int (nI fsz), .ref mi, .int (nI isz), .int z, .ref mh, .ref mv, .int (nI rk), .long lf, .long lo, .ref ms])), (mk, .inl (cA 0, 4, .inl kf)), (me, .inl (cA 0, 4, .inl ef))] s.heap.size = A at hD ⊢
  have hA : ∀ q : Nat, s.heap.size ≤ q → A q := fun q h => by rw [← hAe]; exact Or.inr h
  have hS : va_S A s.heap s.heap [] := va_S.rf
  have hk_0 := hts (.fieldLink RX6 22 "FountainRowsModel" "seeds" "[I") tb_337
  have hk_1 := hts (.constant RX6 80 40503) tb_338
  have hk_2 := hts (.fieldLink RX6 75 "FountainRowsModel" "z" "I") tb_311
  have hk_3 := hts (.fieldLink RX6 13 "FountainRowsModel" "ks" "[I") tb_308
  have hl := lv_entry ([.ref mo, .int (nI j), .int jj]) (n := 6) (Nat.le_of_ble_eq_true rfl)
  rw [lg_entry_eq]
  generalize (lg_sl ([.ref mo, .int (nI j), .int jj]) ++ List.replicate (6 - (lg_sl ([.ref mo, .int (nI j), .int jj])).length) Slot.unset).toArray = ls at hl ⊢
  have hl : lv_has ls 6 [(0, .ref mo), (1, .int (nI j)), (2, .int jj)] := hl
  refine lv_aload_n hx hb dX6_sumOf_0 rfl (lv_at hl 0 rfl) ?_
  refine lv_aload_n hx hb dX6_sumOf_1 rfl (lv_at hl 0 rfl) ?_
  refine va_get (D := (dC, dI)) (ci := 6) (v := .ref me) (C := RX6) (T := TX6) (N := 25) hx hb hts inX6 hown hK hP 0 rfl rfl 5 (by decide) hk_0 (fun _ h9 => h9) rfl dX6_sumOf_2 ?_
  refine lv_iload_n hx hb dX6_sumOf_5 rfl (lv_at hl 1 rfl) ?_
  refine va_iald (D := (dC, dI)) hx hb hK hP 2 0 rfl rfl (vp_in_nI hj4 (by omega)) dX6_sumOf_6 ?_
  refine kt_i (congrArg ef (nI_clamp (by omega : j < 2 ^ 31))) ?_
  refine kt_i (y := seed) hef ?_
  refine lv_ldc (v := 40503) hx hb hown hk_1 dX6_sumOf_7 ?_
  refine lv_iload_n hx hb dX6_sumOf_9 rfl (lv_at hl 2 rfl) ?_
  refine lv_iconst (v := 1) hx hb dX6_sumOf_10 (by decide) ?_
  refine lv_iadd hx hb dX6_sumOf_11 ?_
  refine lv_imul hx hb dX6_sumOf_12 ?_
  refine lv_iadd hx hb dX6_sumOf_13 ?_
  refine va_put (D := (dC, dI)) (ci := 6) (v := .int (seed + (40503 * (jj + 1)))) (ty := .int) (C := RX6) (T := TX6) (N := 25) hx hb hts inX6 tyX6 tyX6_ok nmX6 hown hK hP hD hS 0 rfl rfl 18 (by decide) hk_2 (fun _ h9 => h9) rfl (by decide +kernel) rfl rfl (Nat.le_of_ble_eq_true rfl) dX6_sumOf_14 (fun H locs hP hD hS => ?_)
  have hP : va_P (dC, dI) vwCl [(mo, .inr (6, [.ref mw, .int (nI cnt), .ref mk, .ref mp, .ref mz, .ref me, .ref mtb, .ref my, .ref mx, .ref mu, .ref mn, .ref mg, .int hf, .int fro, .ref mf, .int (nI fsz), .ref mi, .int (nI isz), .int (seed + (40503 * (jj + 1))), .ref mh, .ref mv, .int (nI rk), .long lf, .long lo, .ref ms])), (mk, .inl (cA 0, 4, .inl kf)), (me, .inl (cA 0, 4, .inl ef))] H := hP
  have hD : va_D A [(mo, .inr (6, [.ref mw, .int (nI cnt), .ref mk, .ref mp, .ref mz, .ref me, .ref mtb, .ref my, .ref mx, .ref mu, .ref mn, .ref mg, .int hf, .int fro, .ref mf, .int (nI fsz), .ref mi, .int (nI isz), .int (seed + (40503 * (jj + 1))), .ref mh, .ref mv, .int (nI rk), .long lf, .long lo, .ref ms])), (mk, .inl (cA 0, 4, .inl kf)), (me, .inl (cA 0, 4, .inl ef))] := hD
  refine lv_lconst (v := 0) hx hb dX6_sumOf_17 (by decide) ?_
  refine lv_lstore_n (lv' := [(3, .long 0), (0, .ref mo), (1, .int (nI j)), (2, .int jj)]) hx hb dX6_sumOf_18 rfl hl (by decide) rfl (fun ls hl => ?_)
  refine lv_iconst (v := 0) hx hb dX6_sumOf_19 (by decide) ?_
  refine lv_istore (lv' := [(5, .int 0), (3, .long 0), (0, .ref mo), (1, .int (nI j)), (2, .int jj)]) hx hb dX6_sumOf_20 hl (by decide) rfl (fun ls hl => ?_)
  have hi_hk : 0 ≤ K := (by omega)
  have hi_hz9 : (seed + (40503 * (jj + 1))) = sp_z (seed + (40503 * (jj + 1))) 0 := rfl
  have hi_hy9 : 0 = rs_sb (seed + (40503 * (jj + 1))) 0 := rfl
  have hl9 : lv_has ls 6 [(5, .int (nI 0)), (3, .long 0), (0, .ref mo), (1, .int (nI j)), (2, .int jj)] := lv_sub hl [0, 1, 2, 3, 4] rfl
  refine k_loop3 (I := fun (k : Nat) (z1 : Int32) (y : Int64) (H : Heap) (locs : List Loc) (ls : Array Slot) => (k ≤ K) ∧ (z1 = sp_z (seed + (40503 * (jj + 1))) k) ∧ (y = rs_sb (seed + (40503 * (jj + 1))) k) ∧ lv_has ls 6 [(5, .int (nI k)), (3, .long y), (0, .ref mo), (1, .int (nI j)), (2, .int jj)] ∧ va_P (dC, dI) vwCl [(mo, .inr (6, [.ref mw, .int (nI cnt), .ref mk, .ref mp, .ref mz, .ref me, .ref mtb, .ref my, .ref mx, .ref mu, .ref mn, .ref mg, .int hf, .int fro, .ref mf, .int (nI fsz), .ref mi, .int (nI isz), .int z1, .ref mh, .ref mv, .int (nI rk), .long lf, .long lo, .ref ms])), (mk, .inl (cA 0, 4, .inl kf)), (me, .inl (cA 0, 4, .inl ef))] H ∧ va_D A [(mo, .inr (6, [.ref mw, .int (nI cnt), .ref mk, .ref mp, .ref mz, .ref me, .ref mtb, .ref my, .ref mx, .ref mu, .ref mn, .ref mg, .int hf, .int fro, .ref mf, .int (nI fsz), .ref mi, .int (nI isz), .int z1, .ref mh, .ref mv, .int (nI rk), .long lf, .long lo, .ref ms])), (mk, .inl (cA 0, 4, .inl kf)), (me, .inl (cA 0, 4, .inl ef))] ∧ va_S A s.heap H locs) (μ := fun k z1 y => K - k) ?_ 0 (seed + (40503 * (jj + 1))) 0 ⟨hi_hk, hi_hz9, hi_hy9, hl9, hP, hD, hS⟩
  intro k z1 y H locs ls hI9 ih_L0
  obtain ⟨hk, hz9, hy9, hl, hP, hD, hS⟩ := hI9
  refine lv_iload hx hb dX6_sumOf_22 (lv_at hl 0 rfl) ?_
  refine lv_aload_n hx hb dX6_sumOf_24 rfl (lv_at hl 2 rfl) ?_
  refine va_get (D := (dC, dI)) (ci := 6) (v := .ref mk) (C := RX6) (T := TX6) (N := 25) hx hb hts inX6 hown hK hP 0 rfl rfl 2 (by decide) hk_3 (fun _ h9 => h9) rfl dX6_sumOf_25 ?_
  refine lv_iload_n hx hb dX6_sumOf_28 rfl (lv_at hl 3 rfl) ?_
  refine va_iald (D := (dC, dI)) hx hb hK hP 1 0 rfl rfl (vp_in_nI hj4 (by omega)) dX6_sumOf_29 ?_
  refine kt_i (congrArg kf (nI_clamp (by omega : j < 2 ^ 31))) ?_
  refine kt_i (y := nI K) hkf ?_
  refine lv_icmp_ge (tgt := 55) hx hb dX6_sumOf_30 (by decide) (fun c_1 => ?_) (fun c_1 => ?_)
  · have c_1 : (nI K) ≤ (nI k) := c_1
    have hk9 : K ≤ k := (ku_le (a := K) (b := k) (by omega) (by omega)).mp c_1
    refine lv_lload_n hx hb dX6_sumOf_55 rfl (lv_at hl 1 rfl) ?_
    have hP9 := hP.sub (ws' := [(mo, .inr (6, [.ref mw, .int (nI cnt), .ref mk, .ref mp, .ref mz, .ref me, .ref mtb, .ref my, .ref mx, .ref mu, .ref mn, .ref mg, .int hf, .int fro, .ref mf, .int (nI fsz), .ref mi, .int (nI isz), .int z1, .ref mh, .ref mv, .int (nI rk), .long lf, .long lo, .ref ms])), (mk, .inl (cA 0, 4, .inl kf)), (me, .inl (cA 0, 4, .inl ef))]) [0, 1, 2] rfl
    have hD9 := hD.sub (ws' := [(mo, .inr (6, [.ref mw, .int (nI cnt), .ref mk, .ref mp, .ref mz, .ref me, .ref mtb, .ref my, .ref mx, .ref mu, .ref mn, .ref mg, .int hf, .int fro, .ref mf, .int (nI fsz), .ref mi, .int (nI isz), .int z1, .ref mh, .ref mv, .int (nI rk), .long lf, .long lo, .ref ms])), (mk, .inl (cA 0, 4, .inl kf)), (me, .inl (cA 0, 4, .inl ef))]) [0, 1, 2] (by decide) rfl
    exact W.lret (v := y) hx hb hr (fun t9 ht9 hW9 => ⟨⟨y, z1, rfl, (by have e : k = K := (by omega); rw [hy9, e]), by rw [ht9]; exact hP9, hD9⟩, hS.F ht9⟩) hS.2.2 dX6_sumOf_56
  · have c_1 : ¬ ((nI K) ≤ (nI k)) := c_1
    have hk9 : k < K := (ku_nle (a := K) (b := k) (by omega) (by omega)).mp c_1
    refine lv_lload_n hx hb dX6_sumOf_33 rfl (lv_at hl 1 rfl) ?_
    refine lv_aload_n hx hb dX6_sumOf_34 rfl (lv_at hl 2 rfl) ?_
    have hPc := hP.sub (ws' := [(mo, .inr (6, [.ref mw, .int (nI cnt), .ref mk, .ref mp, .ref mz, .ref me, .ref mtb, .ref my, .ref mx, .ref mu, .ref mn, .ref mg, .int hf, .int fro, .ref mf, .int (nI fsz), .ref mi, .int (nI isz), .int z1, .ref mh, .ref mv, .int (nI rk), .long lf, .long lo, .ref ms]))]) [0] rfl
    have hDc := hD.sub (ws' := [(mo, .inr (6, [.ref mw, .int (nI cnt), .ref mk, .ref mp, .ref mz, .ref me, .ref mtb, .ref my, .ref mx, .ref mu, .ref mn, .ref mg, .int hf, .int fro, .ref mf, .int (nI fsz), .ref mi, .int (nI isz), .int z1, .ref mh, .ref mv, .int (nI rk), .long lf, .long lo, .ref ms]))]) [0] (by decide) rfl
    have hFc := va_free (wc := [(mo, .inr (6, [.ref mw, .int (nI cnt), .ref mk, .ref mp, .ref mz, .ref me, .ref mtb, .ref my, .ref mx, .ref mu, .ref mn, .ref mg, .int hf, .int fro, .ref mf, .int (nI fsz), .ref mi, .int (nI isz), .int z1, .ref mh, .ref mv, .int (nI rk), .long lf, .long lo, .ref ms]))]) hD hS hA [0] rfl
    refine va_calli (va_runV (As := []) (rest := [.long y]) ⟨hx, hb, hml, hown, hts⟩ (c_M_drawn l dC dI cA H.size mo mw mk mp mz me mtb my mx mu mn mg mf mi mh mv ms cnt hf fro fsz isz z1 rk lf lo) (cwV 0 hts (kg_V tb_334 tb_335 tb_336 tb_318 tb_333) rfl rfl rfl (by decide +kernel) ⟨Nat.le_of_ble_eq_true rfl, Nat.le_of_ble_eq_true rfl⟩) (kpv_rw hK hN hPc hDc (ci := 6) (q0 := 0) rfl rfl rfl) rfl rfl hl.1 rfl (lv_room (Nat.le_of_ble_eq_true rfl)) dX6_sumOf_35 ⟨Nat.le_of_ble_eq_true rfl, Nat.le_of_ble_eq_true rfl⟩) hS (fun q _ h => hFc q h) hFc (fun r_2 u9 t9 H1 locs ht9 hvm9 hr_2 hB hz1 hk1 hS => ?_)
    obtain ⟨hP1, hD1⟩ := hB
    rw [ht9] at hP1
    obtain ⟨hP, hD⟩ := va_join (wr := [(mk, .inl (cA 0, 4, .inl kf)), (me, .inl (cA 0, 4, .inl ef))]) (w1 := [(mo, .inr (6, [.ref mw, .int (nI cnt), .ref mk, .ref mp, .ref mz, .ref me, .ref mtb, .ref my, .ref mx, .ref mu, .ref mn, .ref mg, .int hf, .int fro, .ref mf, .int (nI fsz), .ref mi, .int (nI isz), .int (sp_next z1), .ref mh, .ref mv, .int (nI rk), .long lf, .long lo, .ref ms]))]) hP hD [0] [1, 2] rfl rfl (by decide) (by decide) hk1 hFc hP1 hD1
    generalize H1 = H at hP hS ⊢
    have hP : va_P (dC, dI) vwCl [(mk, .inl (cA 0, 4, .inl kf)), (me, .inl (cA 0, 4, .inl ef)), (mo, .inr (6, [.ref mw, .int (nI cnt), .ref mk, .ref mp, .ref mz, .ref me, .ref mtb, .ref my, .ref mx, .ref mu, .ref mn, .ref mg, .int hf, .int fro, .ref mf, .int (nI fsz), .ref mi, .int (nI isz), .int (sp_next z1), .ref mh, .ref mv, .int (nI rk), .long lf, .long lo, .ref ms]))] H := hP
    have hD : va_D A [(mk, .inl (cA 0, 4, .inl kf)), (me, .inl (cA 0, 4, .inl ef)), (mo, .inr (6, [.ref mw, .int (nI cnt), .ref mk, .ref mp, .ref mz, .ref me, .ref mtb, .ref my, .ref mx, .ref mu, .ref mn, .ref mg, .int hf, .int fro, .ref mf, .int (nI fsz), .ref mi, .int (nI isz), .int (sp_next z1), .ref mh, .ref mv, .int (nI rk), .long lf, .long lo, .ref ms]))] := hD
    refine kt_i (y := jv_ushr (sp_next z1) (1 : Int32)) hr_2 ?_
    refine lv_bipush (v := 30) hx hb dX6_sumOf_38 (by decide) ?_
    refine lv_ishr hx hb dX6_sumOf_40 ?_
    refine lv_iconst (v := 1) hx hb dX6_sumOf_41 (by decide) ?_
    refine lv_iand hx hb dX6_sumOf_42 ?_
    refine lv_i2l (v := (((jv_ushr (sp_next z1) (1 : Int32)) >>> ((30 : Int32) &&& 31)) &&& 1).toInt64) hx hb dX6_sumOf_43 rfl ?_
    refine lv_iload hx hb dX6_sumOf_44 (lv_at hl 0 rfl) ?_
    refine lv_lshl (v := jv_lshl ((((jv_ushr (sp_next z1) (1 : Int32)) >>> ((30 : Int32) &&& 31)) &&& 1).toInt64) (nI k)) hx hb dX6_sumOf_46 rfl ?_
    refine lv_lor hx hb dX6_sumOf_47 ?_
    refine lv_lstore_n (lv' := [(3, .long (y ||| (jv_lshl ((((jv_ushr (sp_next z1) (1 : Int32)) >>> ((30 : Int32) &&& 31)) &&& 1).toInt64) (nI k)))), (5, .int (nI k)), (0, .ref mo), (1, .int (nI j)), (2, .int jj)]) hx hb dX6_sumOf_48 rfl hl (by decide) rfl (fun ls hl => ?_)
    refine lv_iinc (v := nI (k + 1)) (lv' := [(5, .int (nI (k + 1))), (3, .long (y ||| (jv_lshl ((((jv_ushr (sp_next z1) (1 : Int32)) >>> ((30 : Int32) &&& 31)) &&& 1).toInt64) (nI k)))), (0, .ref mo), (1, .int (nI j)), (2, .int jj)]) hx hb dX6_sumOf_49 hl (k := 1) rfl (nI_succ _).symm (by decide) rfl (fun ls hl => ?_)
    refine lv_goto (tgt := 22) hx hb dX6_sumOf_52 (by decide) ?_
    have hi_hk : (k + 1) ≤ K := (by omega)
    have hi_hz9 : (sp_next z1) = sp_z (seed + (40503 * (jj + 1))) (k + 1) := (by rw [hz9]; rfl)
    have hi_hy9 : (y ||| (jv_lshl ((((jv_ushr (sp_next z1) (1 : Int32)) >>> ((30 : Int32) &&& 31)) &&& 1).toInt64) (nI k))) = rs_sb (seed + (40503 * (jj + 1))) (k + 1) := (by rw [hy9, hz9]; rfl)
    have hl9 : lv_has ls 6 [(5, .int (nI (k + 1))), (3, .long (y ||| (jv_lshl ((((jv_ushr (sp_next z1) (1 : Int32)) >>> ((30 : Int32) &&& 31)) &&& 1).toInt64) (nI k)))), (0, .ref mo), (1, .int (nI j)), (2, .int jj)] := lv_sub hl [0, 1, 2, 3, 4] rfl
    have hP9 : va_P (dC, dI) vwCl [(mo, .inr (6, [.ref mw, .int (nI cnt), .ref mk, .ref mp, .ref mz, .ref me, .ref mtb, .ref my, .ref mx, .ref mu, .ref mn, .ref mg, .int hf, .int fro, .ref mf, .int (nI fsz), .ref mi, .int (nI isz), .int (sp_next z1), .ref mh, .ref mv, .int (nI rk), .long lf, .long lo, .ref ms])), (mk, .inl (cA 0, 4, .inl kf)), (me, .inl (cA 0, 4, .inl ef))] H := hP.sub [2, 0, 1] rfl
    have hD9 : va_D A [(mo, .inr (6, [.ref mw, .int (nI cnt), .ref mk, .ref mp, .ref mz, .ref me, .ref mtb, .ref my, .ref mx, .ref mu, .ref mn, .ref mg, .int hf, .int fro, .ref mf, .int (nI fsz), .ref mi, .int (nI isz), .int (sp_next z1), .ref mh, .ref mv, .int (nI rk), .long lf, .long lo, .ref ms])), (mk, .inl (cA 0, 4, .inl kf)), (me, .inl (cA 0, 4, .inl ef))] := hD.sub [2, 0, 1] (by decide) rfl
    exact ih_L0 (k + 1) (sp_next z1) (y ||| (jv_lshl ((((jv_ushr (sp_next z1) (1 : Int32)) >>> ((30 : Int32) &&& 31)) &&& 1).toInt64) (nI k))) H locs ls ⟨hi_hk, hi_hz9, hi_hy9, hl9, hP9, hD9, hS⟩ (by show K - (k + 1) < K - k; omega)
set_option maxHeartbeats 4000000 in
set_option maxRecDepth 100000 in
theorem c_M_rowOf (l : Launch) (dC : Nat → ClassId) (dI : Nat → Nat → Nat) (cA : Nat → ClassId) (sz : Nat) (mo : Nat) (mw : Nat) (mk : Nat) (mp : Nat) (mz : Nat) (me : Nat) (mtb : Nat) (my : Nat) (mx : Nat) (mu : Nat) (mn : Nat) (mg : Nat) (mf : Nat) (mi : Nat) (mh : Nat) (mv : Nat) (ms : Nat) (cnt : Nat) (hf : Int32) (fro : Int32) (fsz : Nat) (isz : Nat) (z : Int32) (rk : Nat) (lf : Int64) (lo : Int64) (kf : Nat → Int32) (pf : Nat → Int32) (ef : Nat → Int32) (tbf : Nat → Int32) (j : Nat) (K : Nat) (P : Nat) (seed : Int32) (wN : Nat → Nat) (x : Int32) (hj4 : j < 4) (hkf : kf j = nI K) (hpf : pf j = nI P) (hef : ef j = seed) (hK32 : K ≤ 32) (hP8 : P ≤ 8) (hK1 : 1 ≤ K) (hw : ∀ d, d < 13 → tbf (13 * j + d) = nI (wN d)) (hwb : ∀ d, d < 13 → wN d ≤ 100) (htot : 0 < rs_ws wN 12) : Met l yX6_rowOf (kw_X6_rowOf) ({ frames := 1, cells := 0, slots := 0, locals := 21 }) (va_Pc [.ref mo, .int (nI j), .int x] (fun U => kRW dC dI cA [(mo, .inr (6, [.ref mw, .int (nI cnt), .ref mk, .ref mp, .ref mz, .ref me, .ref mtb, .ref my, .ref mx, .ref mu, .ref mn, .ref mg, .int hf, .int fro, .ref mf, .int (nI fsz), .ref mi, .int (nI isz), .int z, .ref mh, .ref mv, .int (nI rk), .long lf, .long lo, .ref ms])), (mk, .inl (cA 0, 4, .inl kf)), (mp, .inl (cA 0, 4, .inl pf)), (me, .inl (cA 0, 4, .inl ef)), (mtb, .inl (cA 0, 52, .inl tbf))] sz U)) (va_Ql (fun r (u : Int32) => r = rs_row K P seed wN x) (fun (u : Int32) t => kB dC dI (va_A [(mo, .inr (6, [.ref mw, .int (nI cnt), .ref mk, .ref mp, .ref mz, .ref me, .ref mtb, .ref my, .ref mx, .ref mu, .ref mn, .ref mg, .int hf, .int fro, .ref mf, .int (nI fsz), .ref mi, .int (nI isz), .int z, .ref mh, .ref mv, .int (nI rk), .long lf, .long lo, .ref ms])), (mk, .inl (cA 0, 4, .inl kf)), (mp, .inl (cA 0, 4, .inl pf)), (me, .inl (cA 0, 4, .inl ef)), (mtb, .inl (cA 0, 52, .inl tbf))] sz) [(mo, .inr (6, [.ref mw, .int (nI cnt), .ref mk, .ref mp, .ref mz, .ref me, .ref mtb, .ref my, .ref mx, .ref mu, .ref mn, .ref mg, .int hf, .int fro, .ref mf, .int (nI fsz), .ref mi, .int (nI isz), .int u, .ref mh, .ref mv, .int (nI rk), .long lf, .long lo, .ref ms])), (mk, .inl (cA 0, 4, .inl kf)), (mp, .inl (cA 0, 4, .inl pf)), (me, .inl (cA 0, 4, .inl ef)), (mtb, .inl (cA 0, 52, .inl tbf))] t) (va_A [(mo, .inr (6, [.ref mw, .int (nI cnt), .ref mk, .ref mp, .ref mz, .ref me, .ref mtb, .ref my, .ref mx, .ref mu, .ref mn, .ref mg, .int hf, .int fro, .ref mf, .int (nI fsz), .ref mi, .int (nI isz), .int z, .ref mh, .ref mv, .int (nI rk), .long lf, .long lo, .ref ms])), (mk, .inl (cA 0, 4, .inl kf)), (mp, .inl (cA 0, 4, .inl pf)), (me, .inl (cA 0, 4, .inl ef)), (mtb, .inl (cA 0, 52, .inl tbf))] sz)) 0 0 (va_A [(mo, .inr (6, [.ref mw, .int (nI cnt), .ref mk, .ref mp, .ref mz, .ref me, .ref mtb, .ref my, .ref mx, .ref mu, .ref mn, .ref mg, .int hf, .int fro, .ref mf, .int (nI fsz), .ref mi, .int (nI isz), .int z, .ref mh, .ref mv, .int (nI rk), .long lf, .long lo, .ref ms])), (mk, .inl (cA 0, 4, .inl kf)), (mp, .inl (cA 0, 4, .inl pf)), (me, .inl (cA 0, 4, .inl ef)), (mtb, .inl (cA 0, 52, .inl tbf))] sz) := by
  refine Met.ofW (cc := cX6_rowOf) (maxL := 12) (ret := (some .long)) (by decide) rfl ?_
  intro p e s m args below meth c s₁ B hml hv
  obtain ⟨rfl, hsz, hP, hK, hN, hD0⟩ := hv
  have hx := B.exec
  have hb := B.bytes
  have hr := B.returns
  have hts0 := atoms_spec (ws := (kw_X6_rowOf)) B.pre
  have hts : ∀ w ∈ TB, w.before _ s = true := fun w h => hts0 w (List.mem_cons_of_mem _ h)
  have hown : s.vm.findClass RX6 = some m.cls := findClass_of_methodNamed B.named
  have hlocks := B.notSynchronized
  subst hsz
  have hD := hD0.self (sz := s.heap.size)
  generalize hAe : va_A [(mo, .inr (6, [.ref mw, .int (nI cnt), .ref mk, .ref mp, .ref mz, .ref me, .ref mtb, .ref my, .ref mx, .ref mu, .ref mn, .ref mg, .int hf, .int fro, .ref mf, .int (nI fsz), .ref mi, .int (nI isz), .int z, .ref mh, .ref mv, .int (nI rk), .long lf, .long lo, .ref ms])), (mk, .inl (cA 0, 4, .inl kf)), (mp, .inl (cA 0, 4, .inl pf)), (me, .inl (cA 0, 4, .inl ef)), (mtb, .inl (cA 0, 52, .inl tbf))] s.heap.size = A at hD ⊢
  have hA : ∀ q : Nat, s.heap.size ≤ q → A q := fun q h => by rw [← hAe]; exact Or.inr h
  have hS : va_S A s.heap s.heap [] := va_S.rf
  have hk_0 := hts (.fieldLink RX6 13 "FountainRowsModel" "ks" "[I") tb_308
  have hk_1 := hts (.fieldLink RX6 22 "FountainRowsModel" "seeds" "[I") tb_337
  have hk_2 := hts (.constant RX6 80 40503) tb_338
  have hk_3 := hts (.fieldLink RX6 75 "FountainRowsModel" "z" "I") tb_311
  have hk_4 := hts (.fieldLink RX6 25 "FountainRowsModel" "tables" "[I") tb_339
  have hl := lv_entry ([.ref mo, .int (nI j), .int x]) (n := 12) (Nat.le_of_ble_eq_true rfl)
  rw [lg_entry_eq]
  generalize (lg_sl ([.ref mo, .int (nI j), .int x]) ++ List.replicate (12 - (lg_sl ([.ref mo, .int (nI j), .int x])).length) Slot.unset).toArray = ls at hl ⊢
  have hl : lv_has ls 12 [(0, .ref mo), (1, .int (nI j)), (2, .int x)] := hl
  refine lv_iload_n hx hb dX6_rowOf_0 rfl (lv_at hl 2 rfl) ?_
  refine lv_aload_n hx hb dX6_rowOf_1 rfl (lv_at hl 0 rfl) ?_
  refine va_get (D := (dC, dI)) (ci := 6) (v := .ref mk) (C := RX6) (T := TX6) (N := 25) hx hb hts inX6 hown hK hP 0 rfl rfl 2 (by decide) hk_0 (fun _ h9 => h9) rfl dX6_rowOf_2 ?_
  refine lv_iload_n hx hb dX6_rowOf_5 rfl (lv_at hl 1 rfl) ?_
  refine va_iald (D := (dC, dI)) hx hb hK hP 1 0 rfl rfl (vp_in_nI hj4 (by omega)) dX6_rowOf_6 ?_
  refine kt_i (congrArg kf (nI_clamp (by omega : j < 2 ^ 31))) ?_
  refine kt_i (y := nI K) hkf ?_
  refine lv_icmp_ge (tgt := 14) hx hb dX6_rowOf_7 (by decide) (fun c_1 => ?_) (fun c_1 => ?_)
  · have c_1 : (nI K) ≤ x := c_1
    have hb0 := c_1
    refine lv_aload_n hx hb dX6_rowOf_14 rfl (lv_at hl 0 rfl) ?_
    refine lv_aload_n hx hb dX6_rowOf_15 rfl (lv_at hl 0 rfl) ?_
    refine va_get (D := (dC, dI)) (ci := 6) (v := .ref me) (C := RX6) (T := TX6) (N := 25) hx hb hts inX6 hown hK hP 0 rfl rfl 5 (by decide) hk_1 (fun _ h9 => h9) rfl dX6_rowOf_16 ?_
    refine lv_iload_n hx hb dX6_rowOf_19 rfl (lv_at hl 1 rfl) ?_
    refine va_iald (D := (dC, dI)) hx hb hK hP 3 0 rfl rfl (vp_in_nI hj4 (by omega)) dX6_rowOf_20 ?_
    refine kt_i (congrArg ef (nI_clamp (by omega : j < 2 ^ 31))) ?_
    refine kt_i (y := seed) hef ?_
    refine lv_iload_n hx hb dX6_rowOf_21 rfl (lv_at hl 2 rfl) ?_
    refine lv_ldc (v := 40503) hx hb hown hk_2 dX6_rowOf_22 ?_
    refine lv_imul hx hb dX6_rowOf_24 ?_
    refine lv_ixor hx hb dX6_rowOf_25 ?_
    refine va_put (D := (dC, dI)) (ci := 6) (v := .int (seed ^^^ (x * 40503))) (ty := .int) (C := RX6) (T := TX6) (N := 25) hx hb hts inX6 tyX6 tyX6_ok nmX6 hown hK hP hD hS 0 rfl rfl 18 (by decide) hk_3 (fun _ h9 => h9) rfl (by decide +kernel) rfl rfl (Nat.le_of_ble_eq_true rfl) dX6_rowOf_26 (fun H locs hP hD hS => ?_)
    have hP : va_P (dC, dI) vwCl [(mo, .inr (6, [.ref mw, .int (nI cnt), .ref mk, .ref mp, .ref mz, .ref me, .ref mtb, .ref my, .ref mx, .ref mu, .ref mn, .ref mg, .int hf, .int fro, .ref mf, .int (nI fsz), .ref mi, .int (nI isz), .int (seed ^^^ (x * 40503)), .ref mh, .ref mv, .int (nI rk), .long lf, .long lo, .ref ms])), (mk, .inl (cA 0, 4, .inl kf)), (mp, .inl (cA 0, 4, .inl pf)), (me, .inl (cA 0, 4, .inl ef)), (mtb, .inl (cA 0, 52, .inl tbf))] H := hP
    have hD : va_D A [(mo, .inr (6, [.ref mw, .int (nI cnt), .ref mk, .ref mp, .ref mz, .ref me, .ref mtb, .ref my, .ref mx, .ref mu, .ref mn, .ref mg, .int hf, .int fro, .ref mf, .int (nI fsz), .ref mi, .int (nI isz), .int (seed ^^^ (x * 40503)), .ref mh, .ref mv, .int (nI rk), .long lf, .long lo, .ref ms])), (mk, .inl (cA 0, 4, .inl kf)), (mp, .inl (cA 0, 4, .inl pf)), (me, .inl (cA 0, 4, .inl ef)), (mtb, .inl (cA 0, 52, .inl tbf))] := hD
    refine lv_iconst (v := 0) hx hb dX6_rowOf_29 (by decide) ?_
    refine lv_istore_n (lv' := [(3, .int 0), (0, .ref mo), (1, .int (nI j)), (2, .int x)]) hx hb dX6_rowOf_30 rfl hl (by decide) rfl (fun ls hl => ?_)
    refine lv_iconst (v := 1) hx hb dX6_rowOf_31 (by decide) ?_
    refine lv_istore (lv' := [(4, .int 1), (3, .int 0), (0, .ref mo), (1, .int (nI j)), (2, .int x)]) hx hb dX6_rowOf_32 hl (by decide) rfl (fun ls hl => ?_)
    have hi_hd : 0 ≤ 12 := (by omega)
    have hi_ht : 0 = rs_ws wN 0 := rfl
    have hi_ht2 : 0 ≤ 100 * 0 := (by omega)
    have hl9 : lv_has ls 12 [(4, .int (nI (0 + 1))), (3, .int (nI 0)), (0, .ref mo), (1, .int (nI j)), (2, .int x)] := lv_sub hl [0, 1, 2, 3, 4] rfl
    refine k_loop2 (I := fun (d : Nat) (t : Nat) (H : Heap) (locs : List Loc) (ls : Array Slot) => (d ≤ 12) ∧ (t = rs_ws wN d) ∧ (t ≤ 100 * d) ∧ lv_has ls 12 [(4, .int (nI (d + 1))), (3, .int (nI t)), (0, .ref mo), (1, .int (nI j)), (2, .int x)] ∧ va_P (dC, dI) vwCl [(mo, .inr (6, [.ref mw, .int (nI cnt), .ref mk, .ref mp, .ref mz, .ref me, .ref mtb, .ref my, .ref mx, .ref mu, .ref mn, .ref mg, .int hf, .int fro, .ref mf, .int (nI fsz), .ref mi, .int (nI isz), .int (seed ^^^ (x * 40503)), .ref mh, .ref mv, .int (nI rk), .long lf, .long lo, .ref ms])), (mk, .inl (cA 0, 4, .inl kf)), (mp, .inl (cA 0, 4, .inl pf)), (me, .inl (cA 0, 4, .inl ef)), (mtb, .inl (cA 0, 52, .inl tbf))] H ∧ va_D A [(mo, .inr (6, [.ref mw, .int (nI cnt), .ref mk, .ref mp, .ref mz, .ref me, .ref mtb, .ref my, .ref mx, .ref mu, .ref mn, .ref mg, .int hf, .int fro, .ref mf, .int (nI fsz), .ref mi, .int (nI isz), .int (seed ^^^ (x * 40503)), .ref mh, .ref mv, .int (nI rk), .long lf, .long lo, .ref ms])), (mk, .inl (cA 0, 4, .inl kf)), (mp, .inl (cA 0, 4, .inl pf)), (me, .inl (cA 0, 4, .inl ef)), (mtb, .inl (cA 0, 52, .inl tbf))] ∧ va_S A s.heap H locs) (μ := fun d t => 12 - d) ?_ 0 0 ⟨hi_hd, hi_ht, hi_ht2, hl9, hP, hD, hS⟩
    intro d t H locs ls hI9 ih_L0
    obtain ⟨hd, ht, ht2, hl, hP, hD, hS⟩ := hI9
    refine lv_iload hx hb dX6_rowOf_34 (lv_at hl 0 rfl) ?_
    refine lv_bipush (v := 13) hx hb dX6_rowOf_36 (by decide) ?_
    refine lv_icmp_ge (tgt := 62) hx hb dX6_rowOf_38 (by decide) (fun c_2 => ?_) (fun c_2 => ?_)
    · have c_2 : 13 ≤ (nI (d + 1)) := c_2
      have hk9 : 13 ≤ (d + 1) := (ku_le (a := 13) (b := (d + 1)) (by omega) (by omega)).mp c_2
      have ht12 : t = rs_ws wN 12 := by rw [ht, show d = 12 from by omega]
      refine lv_aload_n hx hb dX6_rowOf_62 rfl (lv_at hl 2 rfl) ?_
      have hPc := hP.sub (ws' := [(mo, .inr (6, [.ref mw, .int (nI cnt), .ref mk, .ref mp, .ref mz, .ref me, .ref mtb, .ref my, .ref mx, .ref mu, .ref mn, .ref mg, .int hf, .int fro, .ref mf, .int (nI fsz), .ref mi, .int (nI isz), .int (seed ^^^ (x * 40503)), .ref mh, .ref mv, .int (nI rk), .long lf, .long lo, .ref ms]))]) [0] rfl
      have hDc := hD.sub (ws' := [(mo, .inr (6, [.ref mw, .int (nI cnt), .ref mk, .ref mp, .ref mz, .ref me, .ref mtb, .ref my, .ref mx, .ref mu, .ref mn, .ref mg, .int hf, .int fro, .ref mf, .int (nI fsz), .ref mi, .int (nI isz), .int (seed ^^^ (x * 40503)), .ref mh, .ref mv, .int (nI rk), .long lf, .long lo, .ref ms]))]) [0] (by decide) rfl
      have hFc := va_free (wc := [(mo, .inr (6, [.ref mw, .int (nI cnt), .ref mk, .ref mp, .ref mz, .ref me, .ref mtb, .ref my, .ref mx, .ref mu, .ref mn, .ref mg, .int hf, .int fro, .ref mf, .int (nI fsz), .ref mi, .int (nI isz), .int (seed ^^^ (x * 40503)), .ref mh, .ref mv, .int (nI rk), .long lf, .long lo, .ref ms]))]) hD hS hA [0] rfl
      refine va_calli (va_runV (As := []) (rest := []) ⟨hx, hb, hml, hown, hts⟩ (c_M_drawn l dC dI cA H.size mo mw mk mp mz me mtb my mx mu mn mg mf mi mh mv ms cnt hf fro fsz isz (seed ^^^ (x * 40503)) rk lf lo) (cwV 0 hts (kg_V tb_334 tb_335 tb_336 tb_318 tb_333) rfl rfl rfl (by decide +kernel) ⟨Nat.le_of_ble_eq_true rfl, Nat.le_of_ble_eq_true rfl⟩) (kpv_rw hK hN hPc hDc (ci := 6) (q0 := 0) rfl rfl rfl) rfl rfl hl.1 rfl (lv_room (Nat.le_of_ble_eq_true rfl)) dX6_rowOf_63 ⟨Nat.le_of_ble_eq_true rfl, Nat.le_of_ble_eq_true rfl⟩) hS (fun q _ h => hFc q h) hFc (fun r_3 u9 t9 H1 locs ht9 hvm9 hr_3 hB hz1 hk1 hS => ?_)
      obtain ⟨hP1, hD1⟩ := hB
      rw [ht9] at hP1
      obtain ⟨hP, hD⟩ := va_join (wr := [(mk, .inl (cA 0, 4, .inl kf)), (mp, .inl (cA 0, 4, .inl pf)), (me, .inl (cA 0, 4, .inl ef)), (mtb, .inl (cA 0, 52, .inl tbf))]) (w1 := [(mo, .inr (6, [.ref mw, .int (nI cnt), .ref mk, .ref mp, .ref mz, .ref me, .ref mtb, .ref my, .ref mx, .ref mu, .ref mn, .ref mg, .int hf, .int fro, .ref mf, .int (nI fsz), .ref mi, .int (nI isz), .int (sp_next (seed ^^^ (x * 40503))), .ref mh, .ref mv, .int (nI rk), .long lf, .long lo, .ref ms]))]) hP hD [0] [1, 2, 3, 4] rfl rfl (by decide) (by decide) hk1 hFc hP1 hD1
      generalize H1 = H at hP hS ⊢
      have hP : va_P (dC, dI) vwCl [(mk, .inl (cA 0, 4, .inl kf)), (mp, .inl (cA 0, 4, .inl pf)), (me, .inl (cA 0, 4, .inl ef)), (mtb, .inl (cA 0, 52, .inl tbf)), (mo, .inr (6, [.ref mw, .int (nI cnt), .ref mk, .ref mp, .ref mz, .ref me, .ref mtb, .ref my, .ref mx, .ref mu, .ref mn, .ref mg, .int hf, .int fro, .ref mf, .int (nI fsz), .ref mi, .int (nI isz), .int (sp_next (seed ^^^ (x * 40503))), .ref mh, .ref mv, .int (nI rk), .long lf, .long lo, .ref ms]))] H := hP
      have hD : va_D A [(mk, .inl (cA 0, 4, .inl kf)), (mp, .inl (cA 0, 4, .inl pf)), (me, .inl (cA 0, 4, .inl ef)), (mtb, .inl (cA 0, 52, .inl tbf)), (mo, .inr (6, [.ref mw, .int (nI cnt), .ref mk, .ref mp, .ref mz, .ref me, .ref mtb, .ref my, .ref mx, .ref mu, .ref mn, .ref mg, .int hf, .int fro, .ref mf, .int (nI fsz), .ref mi, .int (nI isz), .int (sp_next (seed ^^^ (x * 40503))), .ref mh, .ref mv, .int (nI rk), .long lf, .long lo, .ref ms]))] := hD
      refine kt_i (y := jv_ushr (sp_next (seed ^^^ (x * 40503))) (1 : Int32)) hr_3 ?_
      refine lv_iload_n hx hb dX6_rowOf_66 rfl (lv_at hl 1 rfl) ?_
      refine lv_irem hx hb dX6_rowOf_67 (nI_ne0 (by omega) (by omega)) ?_
      refine kt_i (y := nI (sp_dn (sp_next (seed ^^^ (x * 40503))) % rs_ws wN 12)) (by rw [ht12]; exact rs_rem _ (by omega) (by omega)) ?_
      refine lv_istore (lv' := [(4, .int (nI (sp_dn (sp_next (seed ^^^ (x * 40503))) % rs_ws wN 12))), (3, .int (nI t)), (0, .ref mo), (1, .int (nI j)), (2, .int x)]) hx hb dX6_rowOf_68 hl (by decide) rfl (fun ls hl => ?_)
      refine lv_iconst (v := 0) hx hb dX6_rowOf_70 (by decide) ?_
      refine lv_istore (lv' := [(5, .int 0), (4, .int (nI (sp_dn (sp_next (seed ^^^ (x * 40503))) % rs_ws wN 12))), (3, .int (nI t)), (0, .ref mo), (1, .int (nI j)), (2, .int x)]) hx hb dX6_rowOf_71 hl (by decide) rfl (fun ls hl => ?_)
      refine lv_iconst (v := 0) hx hb dX6_rowOf_73 (by decide) ?_
      refine lv_istore (lv' := [(6, .int 0), (5, .int 0), (4, .int (nI (sp_dn (sp_next (seed ^^^ (x * 40503))) % rs_ws wN 12))), (3, .int (nI t)), (0, .ref mo), (1, .int (nI j)), (2, .int x)]) hx hb dX6_rowOf_74 hl (by decide) rfl (fun ls hl => ?_)
      have hi_hdg : 0 ≤ 12 := (by omega)
      have hi_hso : 0 = rs_ws wN 0 := rfl
      have hi_hso2 : 0 ≤ 100 * 0 := (by omega)
      have hi_hrem : rs_dg wN (sp_dn (sp_next (seed ^^^ (x * 40503))) % rs_ws wN 12) (12 - 0) 0 = (rs_dg wN (sp_dn (sp_next (seed ^^^ (x * 40503))) % rs_ws wN 12) 12 0) := rfl
      have hl9 : lv_has ls 12 [(5, .int (nI 0)), (6, .int (nI 0)), (4, .int (nI (sp_dn (sp_next (seed ^^^ (x * 40503))) % rs_ws wN 12))), (3, .int (nI t)), (0, .ref mo), (1, .int (nI j)), (2, .int x)] := lv_sub hl [1, 0, 2, 3, 4, 5, 6] rfl
      refine k_loop2 (I := fun (dg : Nat) (so : Nat) (H : Heap) (locs : List Loc) (ls : Array Slot) => (dg ≤ 12) ∧ (so = rs_ws wN dg) ∧ (so ≤ 100 * dg) ∧ (rs_dg wN (sp_dn (sp_next (seed ^^^ (x * 40503))) % rs_ws wN 12) (12 - dg) dg = (rs_dg wN (sp_dn (sp_next (seed ^^^ (x * 40503))) % rs_ws wN 12) 12 0)) ∧ lv_has ls 12 [(5, .int (nI dg)), (6, .int (nI so)), (4, .int (nI (sp_dn (sp_next (seed ^^^ (x * 40503))) % rs_ws wN 12))), (3, .int (nI t)), (0, .ref mo), (1, .int (nI j)), (2, .int x)] ∧ va_P (dC, dI) vwCl [(mk, .inl (cA 0, 4, .inl kf)), (mp, .inl (cA 0, 4, .inl pf)), (me, .inl (cA 0, 4, .inl ef)), (mtb, .inl (cA 0, 52, .inl tbf)), (mo, .inr (6, [.ref mw, .int (nI cnt), .ref mk, .ref mp, .ref mz, .ref me, .ref mtb, .ref my, .ref mx, .ref mu, .ref mn, .ref mg, .int hf, .int fro, .ref mf, .int (nI fsz), .ref mi, .int (nI isz), .int (sp_next (seed ^^^ (x * 40503))), .ref mh, .ref mv, .int (nI rk), .long lf, .long lo, .ref ms]))] H ∧ va_D A [(mk, .inl (cA 0, 4, .inl kf)), (mp, .inl (cA 0, 4, .inl pf)), (me, .inl (cA 0, 4, .inl ef)), (mtb, .inl (cA 0, 52, .inl tbf)), (mo, .inr (6, [.ref mw, .int (nI cnt), .ref mk, .ref mp, .ref mz, .ref me, .ref mtb, .ref my, .ref mx, .ref mu, .ref mn, .ref mg, .int hf, .int fro, .ref mf, .int (nI fsz), .ref mi, .int (nI isz), .int (sp_next (seed ^^^ (x * 40503))), .ref mh, .ref mv, .int (nI rk), .long lf, .long lo, .ref ms]))] ∧ va_S A s.heap H locs) (μ := fun dg so => 12 - dg) ?_ 0 0 ⟨hi_hdg, hi_hso, hi_hso2, hi_hrem, hl9, hP, hD, hS⟩
      intro dg so H locs ls hI9 ih_L1
      obtain ⟨hdg, hso, hso2, hrem, hl, hP, hD, hS⟩ := hI9
      refine lv_iload hx hb dX6_rowOf_76 (lv_at hl 1 rfl) ?_
      refine lv_iload hx hb dX6_rowOf_78 (lv_at hl 2 rfl) ?_
      have hTT : (sp_dn (sp_next (seed ^^^ (x * 40503))) % rs_ws wN 12) < rs_ws wN 12 := Nat.mod_lt _ htot
      refine lv_icmp_gt (tgt := 106) hx hb dX6_rowOf_80 (by decide) (fun c_4 => ?_) (fun c_4 => ?_)
      · have c_4 : (nI (sp_dn (sp_next (seed ^^^ (x * 40503))) % rs_ws wN 12)) < (nI so) := c_4
        have hgt : (sp_dn (sp_next (seed ^^^ (x * 40503))) % rs_ws wN 12) < so := (nI_ltI (by omega) (by omega)).mp c_4
        have edg : (rs_dg wN (sp_dn (sp_next (seed ^^^ (x * 40503))) % rs_ws wN 12) 12 0) = dg := rs_dg_end hrem (by rw [← hso]; omega)
        refine lv_aload_n hx hb dX6_rowOf_106 rfl (lv_at hl 4 rfl) ?_
        refine lv_iload_n hx hb dX6_rowOf_107 rfl (lv_at hl 5 rfl) ?_
        have hPc := hP.sub (ws' := [(mo, .inr (6, [.ref mw, .int (nI cnt), .ref mk, .ref mp, .ref mz, .ref me, .ref mtb, .ref my, .ref mx, .ref mu, .ref mn, .ref mg, .int hf, .int fro, .ref mf, .int (nI fsz), .ref mi, .int (nI isz), .int (sp_next (seed ^^^ (x * 40503))), .ref mh, .ref mv, .int (nI rk), .long lf, .long lo, .ref ms])), (mk, .inl (cA 0, 4, .inl kf)), (mp, .inl (cA 0, 4, .inl pf))]) [4, 0, 1] rfl
        refine kq_csi (va_runV (As := [.int (nI j)]) (rest := []) ⟨hx, hb, hml, hown, hts⟩ (c_M_parts l dC dI cA mo mw mk mp mz me mtb my mx mu mn mg mf mi mh mv ms cnt hf fro fsz isz (sp_next (seed ^^^ (x * 40503))) rk lf lo kf pf j K P (by first | assumption | omega) (by first | assumption | omega) (by first | assumption | omega)) (cwV 1 hts (kg_V tb_325 tb_326 tb_327 tb_318 tb_324) rfl rfl rfl (by decide +kernel) ⟨Nat.le_of_ble_eq_true rfl, Nat.le_of_ble_eq_true rfl⟩) (kpv_ro hK hN hPc (ci := 6) (q0 := 0) rfl rfl rfl) rfl rfl hl.1 rfl (lv_room (Nat.le_of_ble_eq_true rfl)) dX6_rowOf_108 ⟨Nat.le_of_ble_eq_true rfl, Nat.le_of_ble_eq_true rfl⟩) (fun r_5 hr_5 => ?_)
        refine kt_i (y := nI (K + P)) hr_5 ?_
        refine lv_istore (lv' := [(7, .int (nI (K + P))), (5, .int (nI dg)), (6, .int (nI so)), (4, .int (nI (sp_dn (sp_next (seed ^^^ (x * 40503))) % rs_ws wN 12))), (3, .int (nI t)), (0, .ref mo), (1, .int (nI j)), (2, .int x)]) hx hb dX6_rowOf_111 hl (by decide) rfl (fun ls hl => ?_)
        refine lv_iload hx hb dX6_rowOf_113 (lv_at hl 1 rfl) ?_
        refine lv_iload hx hb dX6_rowOf_115 (lv_at hl 0 rfl) ?_
        refine lv_icmp_ge (tgt := 125) hx hb dX6_rowOf_117 (by decide) (fun c_6 => ?_) (fun c_6 => ?_)
        · have c_6 : (nI (K + P)) ≤ (nI dg) := c_6
          have hk7 : K + P ≤ dg := (ku_le (by omega) (by omega)).mp c_6
          refine lv_iload hx hb dX6_rowOf_125 (lv_at hl 0 rfl) ?_
          refine kt_i (y := nI (rs_wn (K + P) (rs_dg wN (sp_dn (sp_next (seed ^^^ (x * 40503))) % rs_ws wN 12) 12 0))) (by unfold rs_wn; rw [edg]; first | rw [if_pos hk7] | rw [if_neg (by omega)]) ?_
          refine lv_istore (lv' := [(5, .int (nI (rs_wn (K + P) (rs_dg wN (sp_dn (sp_next (seed ^^^ (x * 40503))) % rs_ws wN 12) 12 0)))), (7, .int (nI (K + P))), (6, .int (nI so)), (4, .int (nI (sp_dn (sp_next (seed ^^^ (x * 40503))) % rs_ws wN 12))), (3, .int (nI t)), (0, .ref mo), (1, .int (nI j)), (2, .int x)]) hx hb dX6_rowOf_127 hl (by decide) rfl (fun ls hl => ?_)
          refine lv_lconst (v := 0) hx hb dX6_rowOf_129 (by decide) ?_
          refine lv_lstore (lv' := [(8, .long 0), (5, .int (nI (rs_wn (K + P) (rs_dg wN (sp_dn (sp_next (seed ^^^ (x * 40503))) % rs_ws wN 12) 12 0)))), (7, .int (nI (K + P))), (6, .int (nI so)), (4, .int (nI (sp_dn (sp_next (seed ^^^ (x * 40503))) % rs_ws wN 12))), (3, .int (nI t)), (0, .ref mo), (1, .int (nI j)), (2, .int x)]) hx hb dX6_rowOf_130 hl (by decide) rfl (fun ls hl => ?_)
          refine lv_iconst (v := 0) hx hb dX6_rowOf_132 (by decide) ?_
          refine lv_istore (lv' := [(10, .int 0), (8, .long 0), (5, .int (nI (rs_wn (K + P) (rs_dg wN (sp_dn (sp_next (seed ^^^ (x * 40503))) % rs_ws wN 12) 12 0)))), (7, .int (nI (K + P))), (6, .int (nI so)), (4, .int (nI (sp_dn (sp_next (seed ^^^ (x * 40503))) % rs_ws wN 12))), (3, .int (nI t)), (0, .ref mo), (1, .int (nI j)), (2, .int x)]) hx hb dX6_rowOf_133 hl (by decide) rfl (fun ls hl => ?_)
          have hi_hwn : (rs_wn (K + P) (rs_dg wN (sp_dn (sp_next (seed ^^^ (x * 40503))) % rs_ws wN 12) 12 0)) ≤ K + P := (rs_wn_le _ _)
          have hi_hk : 0 ≤ (rs_wn (K + P) (rs_dg wN (sp_dn (sp_next (seed ^^^ (x * 40503))) % rs_ws wN 12) 12 0)) := (Nat.zero_le _)
          have hi_hrem2 : sp_rowl (K + P) ((rs_wn (K + P) (rs_dg wN (sp_dn (sp_next (seed ^^^ (x * 40503))) % rs_ws wN 12) 12 0)) - 0) (sp_next (seed ^^^ (x * 40503))) 0 = sp_rowl (K + P) (rs_wn (K + P) (rs_dg wN (sp_dn (sp_next (seed ^^^ (x * 40503))) % rs_ws wN 12) 12 0)) (sp_next (seed ^^^ (x * 40503))) 0 := rfl
          have hi_hcb : rs_cb 0 (K + P) = 0 := (rs_cb_0 (by omega))
          have hl9 : lv_has ls 12 [(10, .int (nI 0)), (8, .long 0), (5, .int (nI (rs_wn (K + P) (rs_dg wN (sp_dn (sp_next (seed ^^^ (x * 40503))) % rs_ws wN 12) 12 0)))), (7, .int (nI (K + P))), (6, .int (nI so)), (4, .int (nI (sp_dn (sp_next (seed ^^^ (x * 40503))) % rs_ws wN 12))), (3, .int (nI t)), (0, .ref mo), (1, .int (nI j)), (2, .int x)] := lv_sub hl [0, 1, 2, 3, 4, 5, 6, 7, 8, 9] rfl
          refine k_loop3 (I := fun (k : Nat) (z1 : Int32) (y : Int64) (H : Heap) (locs : List Loc) (ls : Array Slot) => ((rs_wn (K + P) (rs_dg wN (sp_dn (sp_next (seed ^^^ (x * 40503))) % rs_ws wN 12) 12 0)) ≤ K + P) ∧ (k ≤ (rs_wn (K + P) (rs_dg wN (sp_dn (sp_next (seed ^^^ (x * 40503))) % rs_ws wN 12) 12 0))) ∧ (sp_rowl (K + P) ((rs_wn (K + P) (rs_dg wN (sp_dn (sp_next (seed ^^^ (x * 40503))) % rs_ws wN 12) 12 0)) - k) z1 y = sp_rowl (K + P) (rs_wn (K + P) (rs_dg wN (sp_dn (sp_next (seed ^^^ (x * 40503))) % rs_ws wN 12) 12 0)) (sp_next (seed ^^^ (x * 40503))) 0) ∧ (rs_cb y (K + P) = k) ∧ lv_has ls 12 [(10, .int (nI k)), (8, .long y), (5, .int (nI (rs_wn (K + P) (rs_dg wN (sp_dn (sp_next (seed ^^^ (x * 40503))) % rs_ws wN 12) 12 0)))), (7, .int (nI (K + P))), (6, .int (nI so)), (4, .int (nI (sp_dn (sp_next (seed ^^^ (x * 40503))) % rs_ws wN 12))), (3, .int (nI t)), (0, .ref mo), (1, .int (nI j)), (2, .int x)] ∧ va_P (dC, dI) vwCl [(mk, .inl (cA 0, 4, .inl kf)), (mp, .inl (cA 0, 4, .inl pf)), (me, .inl (cA 0, 4, .inl ef)), (mtb, .inl (cA 0, 52, .inl tbf)), (mo, .inr (6, [.ref mw, .int (nI cnt), .ref mk, .ref mp, .ref mz, .ref me, .ref mtb, .ref my, .ref mx, .ref mu, .ref mn, .ref mg, .int hf, .int fro, .ref mf, .int (nI fsz), .ref mi, .int (nI isz), .int z1, .ref mh, .ref mv, .int (nI rk), .long lf, .long lo, .ref ms]))] H ∧ va_D A [(mk, .inl (cA 0, 4, .inl kf)), (mp, .inl (cA 0, 4, .inl pf)), (me, .inl (cA 0, 4, .inl ef)), (mtb, .inl (cA 0, 52, .inl tbf)), (mo, .inr (6, [.ref mw, .int (nI cnt), .ref mk, .ref mp, .ref mz, .ref me, .ref mtb, .ref my, .ref mx, .ref mu, .ref mn, .ref mg, .int hf, .int fro, .ref mf, .int (nI fsz), .ref mi, .int (nI isz), .int z1, .ref mh, .ref mv, .int (nI rk), .long lf, .long lo, .ref ms]))] ∧ va_S A s.heap H locs) (μ := fun k z1 y => (rs_wn (K + P) (rs_dg wN (sp_dn (sp_next (seed ^^^ (x * 40503))) % rs_ws wN 12) 12 0)) - k) ?_ 0 (sp_next (seed ^^^ (x * 40503))) 0 ⟨hi_hwn, hi_hk, hi_hrem2, hi_hcb, hl9, hP, hD, hS⟩
          intro k z1 y H locs ls hI9 ih_L2
          obtain ⟨hwn, hk, hrem2, hcb, hl, hP, hD, hS⟩ := hI9
          refine lv_iload hx hb dX6_rowOf_135 (lv_at hl 0 rfl) ?_
          refine lv_iload hx hb dX6_rowOf_137 (lv_at hl 2 rfl) ?_
          refine lv_icmp_ge (tgt := 190) hx hb dX6_rowOf_139 (by decide) (fun c_7 => ?_) (fun c_7 => ?_)
          · have c_7 : (nI (rs_wn (K + P) (rs_dg wN (sp_dn (sp_next (seed ^^^ (x * 40503))) % rs_ws wN 12) 12 0))) ≤ (nI k) := c_7
            have hk9 : (rs_wn (K + P) (rs_dg wN (sp_dn (sp_next (seed ^^^ (x * 40503))) % rs_ws wN 12) 12 0)) ≤ k := (ku_le (a := (rs_wn (K + P) (rs_dg wN (sp_dn (sp_next (seed ^^^ (x * 40503))) % rs_ws wN 12) 12 0))) (b := k) (by omega) (by omega)).mp c_7
            refine lv_lload hx hb dX6_rowOf_190 (lv_at hl 1 rfl) ?_
            have hP9 := hP.sub (ws' := [(mo, .inr (6, [.ref mw, .int (nI cnt), .ref mk, .ref mp, .ref mz, .ref me, .ref mtb, .ref my, .ref mx, .ref mu, .ref mn, .ref mg, .int hf, .int fro, .ref mf, .int (nI fsz), .ref mi, .int (nI isz), .int z1, .ref mh, .ref mv, .int (nI rk), .long lf, .long lo, .ref ms])), (mk, .inl (cA 0, 4, .inl kf)), (mp, .inl (cA 0, 4, .inl pf)), (me, .inl (cA 0, 4, .inl ef)), (mtb, .inl (cA 0, 52, .inl tbf))]) [4, 0, 1, 2, 3] rfl
            have hD9 := hD.sub (ws' := [(mo, .inr (6, [.ref mw, .int (nI cnt), .ref mk, .ref mp, .ref mz, .ref me, .ref mtb, .ref my, .ref mx, .ref mu, .ref mn, .ref mg, .int hf, .int fro, .ref mf, .int (nI fsz), .ref mi, .int (nI isz), .int z1, .ref mh, .ref mv, .int (nI rk), .long lf, .long lo, .ref ms])), (mk, .inl (cA 0, 4, .inl kf)), (mp, .inl (cA 0, 4, .inl pf)), (me, .inl (cA 0, 4, .inl ef)), (mtb, .inl (cA 0, 52, .inl tbf))]) [4, 0, 1, 2, 3] (by decide) rfl
            exact W.lret (v := y) hx hb hr (fun t9 ht9 hW9 => ⟨⟨y, z1, rfl, (by unfold rs_row; rw [if_pos hb0, ← hrem2, show (rs_wn (K + P) (rs_dg wN (sp_dn (sp_next (seed ^^^ (x * 40503))) % rs_ws wN 12) 12 0)) - k = 0 from (by omega)]; rfl), by rw [ht9]; exact hP9, hD9⟩, hS.F ht9⟩) hS.2.2 dX6_rowOf_192
          · have c_7 : ¬ ((nI (rs_wn (K + P) (rs_dg wN (sp_dn (sp_next (seed ^^^ (x * 40503))) % rs_ws wN 12) 12 0))) ≤ (nI k)) := c_7
            have hk9 : k < (rs_wn (K + P) (rs_dg wN (sp_dn (sp_next (seed ^^^ (x * 40503))) % rs_ws wN 12) 12 0)) := (ku_nle (a := (rs_wn (K + P) (rs_dg wN (sp_dn (sp_next (seed ^^^ (x * 40503))) % rs_ws wN 12) 12 0))) (b := k) (by omega) (by omega)).mp c_7
            refine lv_aload_n hx hb dX6_rowOf_142 rfl (lv_at hl 7 rfl) ?_
            have hPc := hP.sub (ws' := [(mo, .inr (6, [.ref mw, .int (nI cnt), .ref mk, .ref mp, .ref mz, .ref me, .ref mtb, .ref my, .ref mx, .ref mu, .ref mn, .ref mg, .int hf, .int fro, .ref mf, .int (nI fsz), .ref mi, .int (nI isz), .int z1, .ref mh, .ref mv, .int (nI rk), .long lf, .long lo, .ref ms]))]) [4] rfl
            have hDc := hD.sub (ws' := [(mo, .inr (6, [.ref mw, .int (nI cnt), .ref mk, .ref mp, .ref mz, .ref me, .ref mtb, .ref my, .ref mx, .ref mu, .ref mn, .ref mg, .int hf, .int fro, .ref mf, .int (nI fsz), .ref mi, .int (nI isz), .int z1, .ref mh, .ref mv, .int (nI rk), .long lf, .long lo, .ref ms]))]) [4] (by decide) rfl
            have hFc := va_free (wc := [(mo, .inr (6, [.ref mw, .int (nI cnt), .ref mk, .ref mp, .ref mz, .ref me, .ref mtb, .ref my, .ref mx, .ref mu, .ref mn, .ref mg, .int hf, .int fro, .ref mf, .int (nI fsz), .ref mi, .int (nI isz), .int z1, .ref mh, .ref mv, .int (nI rk), .long lf, .long lo, .ref ms]))]) hD hS hA [4] rfl
            refine va_calli (va_runV (As := []) (rest := []) ⟨hx, hb, hml, hown, hts⟩ (c_M_drawn l dC dI cA H.size mo mw mk mp mz me mtb my mx mu mn mg mf mi mh mv ms cnt hf fro fsz isz z1 rk lf lo) (cwV 0 hts (kg_V tb_334 tb_335 tb_336 tb_318 tb_333) rfl rfl rfl (by decide +kernel) ⟨Nat.le_of_ble_eq_true rfl, Nat.le_of_ble_eq_true rfl⟩) (kpv_rw hK hN hPc hDc (ci := 6) (q0 := 0) rfl rfl rfl) rfl rfl hl.1 rfl (lv_room (Nat.le_of_ble_eq_true rfl)) dX6_rowOf_143 ⟨Nat.le_of_ble_eq_true rfl, Nat.le_of_ble_eq_true rfl⟩) hS (fun q _ h => hFc q h) hFc (fun r_8 u9 t9 H1 locs ht9 hvm9 hr_8 hB hz1 hk1 hS => ?_)
            obtain ⟨hP1, hD1⟩ := hB
            rw [ht9] at hP1
            obtain ⟨hP, hD⟩ := va_join (wr := [(mk, .inl (cA 0, 4, .inl kf)), (mp, .inl (cA 0, 4, .inl pf)), (me, .inl (cA 0, 4, .inl ef)), (mtb, .inl (cA 0, 52, .inl tbf))]) (w1 := [(mo, .inr (6, [.ref mw, .int (nI cnt), .ref mk, .ref mp, .ref mz, .ref me, .ref mtb, .ref my, .ref mx, .ref mu, .ref mn, .ref mg, .int hf, .int fro, .ref mf, .int (nI fsz), .ref mi, .int (nI isz), .int (sp_next z1), .ref mh, .ref mv, .int (nI rk), .long lf, .long lo, .ref ms]))]) hP hD [4] [0, 1, 2, 3] rfl rfl (by decide) (by decide) hk1 hFc hP1 hD1
            generalize H1 = H at hP hS ⊢
            have hP : va_P (dC, dI) vwCl [(mk, .inl (cA 0, 4, .inl kf)), (mp, .inl (cA 0, 4, .inl pf)), (me, .inl (cA 0, 4, .inl ef)), (mtb, .inl (cA 0, 52, .inl tbf)), (mo, .inr (6, [.ref mw, .int (nI cnt), .ref mk, .ref mp, .ref mz, .ref me, .ref mtb, .ref my, .ref mx, .ref mu, .ref mn, .ref mg, .int hf, .int fro, .ref mf, .int (nI fsz), .ref mi, .int (nI isz), .int (sp_next z1), .ref mh, .ref mv, .int (nI rk), .long lf, .long lo, .ref ms]))] H := hP
            have hD : va_D A [(mk, .inl (cA 0, 4, .inl kf)), (mp, .inl (cA 0, 4, .inl pf)), (me, .inl (cA 0, 4, .inl ef)), (mtb, .inl (cA 0, 52, .inl tbf)), (mo, .inr (6, [.ref mw, .int (nI cnt), .ref mk, .ref mp, .ref mz, .ref me, .ref mtb, .ref my, .ref mx, .ref mu, .ref mn, .ref mg, .int hf, .int fro, .ref mf, .int (nI fsz), .ref mi, .int (nI isz), .int (sp_next z1), .ref mh, .ref mv, .int (nI rk), .long lf, .long lo, .ref ms]))] := hD
            refine kt_i (y := jv_ushr (sp_next z1) (1 : Int32)) hr_8 ?_
            refine lv_iload hx hb dX6_rowOf_146 (lv_at hl 3 rfl) ?_
            refine lv_irem hx hb dX6_rowOf_148 (nI_ne0 (by omega) (by omega)) ?_
            refine kt_i (y := nI (sp_dn (sp_next z1) % (K + P))) (rs_rem _ (by omega) (by omega)) ?_
            refine lv_istore (lv' := [(11, .int (nI (sp_dn (sp_next z1) % (K + P)))), (10, .int (nI k)), (8, .long y), (5, .int (nI (rs_wn (K + P) (rs_dg wN (sp_dn (sp_next (seed ^^^ (x * 40503))) % rs_ws wN 12) 12 0)))), (7, .int (nI (K + P))), (6, .int (nI so)), (4, .int (nI (sp_dn (sp_next (seed ^^^ (x * 40503))) % rs_ws wN 12))), (3, .int (nI t)), (0, .ref mo), (1, .int (nI j)), (2, .int x)]) hx hb dX6_rowOf_149 hl (by decide) rfl (fun ls hl => ?_)
            have hi_hq : 0 ≤ K + P := (by omega)
            have hi_hi : (sp_dn (sp_next z1) % (K + P)) < K + P := (Nat.mod_lt _ (by omega))
            have hi_hrem3 : sp_fo (K + P) y (K + P - 0) (sp_dn (sp_next z1) % (K + P)) = sp_fo (K + P) y (K + P) (sp_dn (sp_next z1) % (K + P)) := rfl
            have hl9 : lv_has ls 12 [(11, .int (nI (sp_dn (sp_next z1) % (K + P)))), (10, .int (nI k)), (8, .long y), (5, .int (nI (rs_wn (K + P) (rs_dg wN (sp_dn (sp_next (seed ^^^ (x * 40503))) % rs_ws wN 12) 12 0)))), (7, .int (nI (K + P))), (6, .int (nI so)), (4, .int (nI (sp_dn (sp_next (seed ^^^ (x * 40503))) % rs_ws wN 12))), (3, .int (nI t)), (0, .ref mo), (1, .int (nI j)), (2, .int x)] := lv_sub hl [0, 1, 2, 3, 4, 5, 6, 7, 8, 9, 10] rfl
            refine k_loop2 (I := fun (q : Nat) (i : Nat) (H : Heap) (locs : List Loc) (ls : Array Slot) => (q ≤ K + P) ∧ (i < K + P) ∧ (sp_fo (K + P) y (K + P - q) i = sp_fo (K + P) y (K + P) (sp_dn (sp_next z1) % (K + P))) ∧ lv_has ls 12 [(11, .int (nI i)), (10, .int (nI k)), (8, .long y), (5, .int (nI (rs_wn (K + P) (rs_dg wN (sp_dn (sp_next (seed ^^^ (x * 40503))) % rs_ws wN 12) 12 0)))), (7, .int (nI (K + P))), (6, .int (nI so)), (4, .int (nI (sp_dn (sp_next (seed ^^^ (x * 40503))) % rs_ws wN 12))), (3, .int (nI t)), (0, .ref mo), (1, .int (nI j)), (2, .int x)] ∧ va_P (dC, dI) vwCl [(mk, .inl (cA 0, 4, .inl kf)), (mp, .inl (cA 0, 4, .inl pf)), (me, .inl (cA 0, 4, .inl ef)), (mtb, .inl (cA 0, 52, .inl tbf)), (mo, .inr (6, [.ref mw, .int (nI cnt), .ref mk, .ref mp, .ref mz, .ref me, .ref mtb, .ref my, .ref mx, .ref mu, .ref mn, .ref mg, .int hf, .int fro, .ref mf, .int (nI fsz), .ref mi, .int (nI isz), .int (sp_next z1), .ref mh, .ref mv, .int (nI rk), .long lf, .long lo, .ref ms]))] H ∧ va_D A [(mk, .inl (cA 0, 4, .inl kf)), (mp, .inl (cA 0, 4, .inl pf)), (me, .inl (cA 0, 4, .inl ef)), (mtb, .inl (cA 0, 52, .inl tbf)), (mo, .inr (6, [.ref mw, .int (nI cnt), .ref mk, .ref mp, .ref mz, .ref me, .ref mtb, .ref my, .ref mx, .ref mu, .ref mn, .ref mg, .int hf, .int fro, .ref mf, .int (nI fsz), .ref mi, .int (nI isz), .int (sp_next z1), .ref mh, .ref mv, .int (nI rk), .long lf, .long lo, .ref ms]))] ∧ va_S A s.heap H locs) (μ := fun q i => K + P - q) ?_ 0 (sp_dn (sp_next z1) % (K + P)) ⟨hi_hq, hi_hi, hi_hrem3, hl9, hP, hD, hS⟩
            intro q i H locs ls hI9 ih_L3
            obtain ⟨hq, hi, hrem3, hl, hP, hD, hS⟩ := hI9
            have hfree := rs_free hcb (by omega : k < K + P) (Nat.mod_lt (sp_dn (sp_next z1)) (by omega : 0 < K + P)) (by omega)
            refine lv_lload hx hb dX6_rowOf_151 (lv_at hl 2 rfl) ?_
            refine lv_iload hx hb dX6_rowOf_153 (lv_at hl 0 rfl) ?_
            refine lv_lshr (v := jv_lshr y (nI i)) hx hb dX6_rowOf_155 rfl ?_
            refine lv_lconst (v := 1) hx hb dX6_rowOf_156 (by decide) ?_
            refine lv_land hx hb dX6_rowOf_157 ?_
            refine lv_lconst (v := 1) hx hb dX6_rowOf_158 (by decide) ?_
            refine W.lcmp hx hb dX6_rowOf_159 ?_
            refine lv_if_ne (tgt := 175) hx hb dX6_rowOf_160 (by decide) (fun c_9 => ?_) (fun c_9 => ?_)
            · have c_9 : ¬ ((lg_cmp ((jv_lshr y (nI i)) &&& 1) 1) = 0) := c_9
              have hbit : sp_bit y (nI i) = 0 := rs_bit0 (by omega) c_9
              have hfin : sp_fo (K + P) y (K + P) (sp_dn (sp_next z1) % (K + P)) = i := rs_fo_end hrem3 hbit
              refine lv_lload hx hb dX6_rowOf_175 (lv_at hl 2 rfl) ?_
              refine lv_lconst (v := 1) hx hb dX6_rowOf_177 (by decide) ?_
              refine lv_iload hx hb dX6_rowOf_178 (lv_at hl 0 rfl) ?_
              refine lv_lshl (v := jv_lshl 1 (nI i)) hx hb dX6_rowOf_180 rfl ?_
              refine lv_lor hx hb dX6_rowOf_181 ?_
              refine lv_lstore (lv' := [(8, .long (y ||| (jv_lshl 1 (nI i)))), (11, .int (nI i)), (10, .int (nI k)), (5, .int (nI (rs_wn (K + P) (rs_dg wN (sp_dn (sp_next (seed ^^^ (x * 40503))) % rs_ws wN 12) 12 0)))), (7, .int (nI (K + P))), (6, .int (nI so)), (4, .int (nI (sp_dn (sp_next (seed ^^^ (x * 40503))) % rs_ws wN 12))), (3, .int (nI t)), (0, .ref mo), (1, .int (nI j)), (2, .int x)]) hx hb dX6_rowOf_182 hl (by decide) rfl (fun ls hl => ?_)
              refine lv_iinc (v := nI (k + 1)) (lv' := [(10, .int (nI (k + 1))), (8, .long (y ||| (jv_lshl 1 (nI i)))), (11, .int (nI i)), (5, .int (nI (rs_wn (K + P) (rs_dg wN (sp_dn (sp_next (seed ^^^ (x * 40503))) % rs_ws wN 12) 12 0)))), (7, .int (nI (K + P))), (6, .int (nI so)), (4, .int (nI (sp_dn (sp_next (seed ^^^ (x * 40503))) % rs_ws wN 12))), (3, .int (nI t)), (0, .ref mo), (1, .int (nI j)), (2, .int x)]) hx hb dX6_rowOf_184 hl (k := 2) rfl (nI_succ _).symm (by decide) rfl (fun ls hl => ?_)
              refine lv_goto (tgt := 135) hx hb dX6_rowOf_187 (by decide) ?_
              have hi_hwn : (rs_wn (K + P) (rs_dg wN (sp_dn (sp_next (seed ^^^ (x * 40503))) % rs_ws wN 12) 12 0)) ≤ K + P := hwn
              have hi_hk : (k + 1) ≤ (rs_wn (K + P) (rs_dg wN (sp_dn (sp_next (seed ^^^ (x * 40503))) % rs_ws wN 12) 12 0)) := (by omega)
              have hi_hrem2 : sp_rowl (K + P) ((rs_wn (K + P) (rs_dg wN (sp_dn (sp_next (seed ^^^ (x * 40503))) % rs_ws wN 12) 12 0)) - (k + 1)) (sp_next z1) (y ||| (jv_lshl 1 (nI i))) = sp_rowl (K + P) (rs_wn (K + P) (rs_dg wN (sp_dn (sp_next (seed ^^^ (x * 40503))) % rs_ws wN 12) 12 0)) (sp_next (seed ^^^ (x * 40503))) 0 := (by rw [← hrem2, show (rs_wn (K + P) (rs_dg wN (sp_dn (sp_next (seed ^^^ (x * 40503))) % rs_ws wN 12) 12 0)) - k = ((rs_wn (K + P) (rs_dg wN (sp_dn (sp_next (seed ^^^ (x * 40503))) % rs_ws wN 12) 12 0)) - (k + 1)) + 1 from (by omega), ← hfin]; rfl)
              have hi_hcb : rs_cb (y ||| (jv_lshl 1 (nI i))) (K + P) = (k + 1) := (by rw [← hfin]; exact rs_cb_s hcb hfree (sp_fo_lt (by omega) _ _ (Nat.mod_lt _ (by omega))) (by omega))
              have hl9 : lv_has ls 12 [(10, .int (nI (k + 1))), (8, .long (y ||| (jv_lshl 1 (nI i)))), (5, .int (nI (rs_wn (K + P) (rs_dg wN (sp_dn (sp_next (seed ^^^ (x * 40503))) % rs_ws wN 12) 12 0)))), (7, .int (nI (K + P))), (6, .int (nI so)), (4, .int (nI (sp_dn (sp_next (seed ^^^ (x * 40503))) % rs_ws wN 12))), (3, .int (nI t)), (0, .ref mo), (1, .int (nI j)), (2, .int x)] := lv_sub hl [0, 1, 3, 4, 5, 6, 7, 8, 9, 10] rfl
              have hP9 : va_P (dC, dI) vwCl [(mk, .inl (cA 0, 4, .inl kf)), (mp, .inl (cA 0, 4, .inl pf)), (me, .inl (cA 0, 4, .inl ef)), (mtb, .inl (cA 0, 52, .inl tbf)), (mo, .inr (6, [.ref mw, .int (nI cnt), .ref mk, .ref mp, .ref mz, .ref me, .ref mtb, .ref my, .ref mx, .ref mu, .ref mn, .ref mg, .int hf, .int fro, .ref mf, .int (nI fsz), .ref mi, .int (nI isz), .int (sp_next z1), .ref mh, .ref mv, .int (nI rk), .long lf, .long lo, .ref ms]))] H := hP
              have hD9 : va_D A [(mk, .inl (cA 0, 4, .inl kf)), (mp, .inl (cA 0, 4, .inl pf)), (me, .inl (cA 0, 4, .inl ef)), (mtb, .inl (cA 0, 52, .inl tbf)), (mo, .inr (6, [.ref mw, .int (nI cnt), .ref mk, .ref mp, .ref mz, .ref me, .ref mtb, .ref my, .ref mx, .ref mu, .ref mn, .ref mg, .int hf, .int fro, .ref mf, .int (nI fsz), .ref mi, .int (nI isz), .int (sp_next z1), .ref mh, .ref mv, .int (nI rk), .long lf, .long lo, .ref ms]))] := hD
              exact ih_L2 (k + 1) (sp_next z1) (y ||| (jv_lshl 1 (nI i))) H locs ls ⟨hi_hwn, hi_hk, hi_hrem2, hi_hcb, hl9, hP9, hD9, hS⟩ (by show (rs_wn (K + P) (rs_dg wN (sp_dn (sp_next (seed ^^^ (x * 40503))) % rs_ws wN 12) 12 0)) - (k + 1) < (rs_wn (K + P) (rs_dg wN (sp_dn (sp_next (seed ^^^ (x * 40503))) % rs_ws wN 12) 12 0)) - k; omega)
            · have c_9 : (lg_cmp ((jv_lshr y (nI i)) &&& 1) 1) = 0 := c_9
              have hbit : ¬ sp_bit y (nI i) = 0 := rs_bit1 (by omega) c_9
              have hqlt : q < K + P := rs_fo_lt hq hrem3 hbit hfree
              refine lv_iload hx hb dX6_rowOf_163 (lv_at hl 0 rfl) ?_
              refine lv_iconst (v := 1) hx hb dX6_rowOf_165 (by decide) ?_
              refine lv_iadd hx hb dX6_rowOf_166 ?_
              refine kt_i (y := nI (i + 1)) (nI_add i 1) ?_
              refine lv_iload hx hb dX6_rowOf_167 (lv_at hl 4 rfl) ?_
              refine lv_irem hx hb dX6_rowOf_169 (nI_ne0 (by omega) (by omega)) ?_
              refine kt_i (y := nI ((i + 1) % (K + P))) (pk_rem (by omega) (by omega) (by omega)) ?_
              refine lv_istore (lv' := [(11, .int (nI ((i + 1) % (K + P)))), (10, .int (nI k)), (8, .long y), (5, .int (nI (rs_wn (K + P) (rs_dg wN (sp_dn (sp_next (seed ^^^ (x * 40503))) % rs_ws wN 12) 12 0)))), (7, .int (nI (K + P))), (6, .int (nI so)), (4, .int (nI (sp_dn (sp_next (seed ^^^ (x * 40503))) % rs_ws wN 12))), (3, .int (nI t)), (0, .ref mo), (1, .int (nI j)), (2, .int x)]) hx hb dX6_rowOf_170 hl (by decide) rfl (fun ls hl => ?_)
              refine lv_goto (tgt := 151) hx hb dX6_rowOf_172 (by decide) ?_
              have hi_hq : (q + 1) ≤ K + P := (by omega)
              have hi_hi : ((i + 1) % (K + P)) < K + P := (Nat.mod_lt _ (by omega))
              have hi_hrem3 : sp_fo (K + P) y (K + P - (q + 1)) ((i + 1) % (K + P)) = sp_fo (K + P) y (K + P) (sp_dn (sp_next z1) % (K + P)) := (by rw [← hrem3, show K + P - q = (K + P - (q + 1)) + 1 from (by omega)]; exact (rs_fo_s hi hbit).symm)
              have hl9 : lv_has ls 12 [(11, .int (nI ((i + 1) % (K + P)))), (10, .int (nI k)), (8, .long y), (5, .int (nI (rs_wn (K + P) (rs_dg wN (sp_dn (sp_next (seed ^^^ (x * 40503))) % rs_ws wN 12) 12 0)))), (7, .int (nI (K + P))), (6, .int (nI so)), (4, .int (nI (sp_dn (sp_next (seed ^^^ (x * 40503))) % rs_ws wN 12))), (3, .int (nI t)), (0, .ref mo), (1, .int (nI j)), (2, .int x)] := lv_sub hl [0, 1, 2, 3, 4, 5, 6, 7, 8, 9, 10] rfl
              have hP9 : va_P (dC, dI) vwCl [(mk, .inl (cA 0, 4, .inl kf)), (mp, .inl (cA 0, 4, .inl pf)), (me, .inl (cA 0, 4, .inl ef)), (mtb, .inl (cA 0, 52, .inl tbf)), (mo, .inr (6, [.ref mw, .int (nI cnt), .ref mk, .ref mp, .ref mz, .ref me, .ref mtb, .ref my, .ref mx, .ref mu, .ref mn, .ref mg, .int hf, .int fro, .ref mf, .int (nI fsz), .ref mi, .int (nI isz), .int (sp_next z1), .ref mh, .ref mv, .int (nI rk), .long lf, .long lo, .ref ms]))] H := hP
              have hD9 : va_D A [(mk, .inl (cA 0, 4, .inl kf)), (mp, .inl (cA 0, 4, .inl pf)), (me, .inl (cA 0, 4, .inl ef)), (mtb, .inl (cA 0, 52, .inl tbf)), (mo, .inr (6, [.ref mw, .int (nI cnt), .ref mk, .ref mp, .ref mz, .ref me, .ref mtb, .ref my, .ref mx, .ref mu, .ref mn, .ref mg, .int hf, .int fro, .ref mf, .int (nI fsz), .ref mi, .int (nI isz), .int (sp_next z1), .ref mh, .ref mv, .int (nI rk), .long lf, .long lo, .ref ms]))] := hD
              exact ih_L3 (q + 1) ((i + 1) % (K + P)) H locs ls ⟨hi_hq, hi_hi, hi_hrem3, hl9, hP9, hD9, hS⟩ (by show K + P - (q + 1) < K + P - q; omega)
        · have c_6 : ¬ ((nI (K + P)) ≤ (nI dg)) := c_6
          have hk7 : dg < K + P := (ku_nle (by omega) (by omega)).mp c_6
          refine lv_iload hx hb dX6_rowOf_120 (lv_at hl 1 rfl) ?_
          refine lv_goto (tgt := 127) hx hb dX6_rowOf_122 (by decide) ?_
          refine kt_i (y := nI (rs_wn (K + P) (rs_dg wN (sp_dn (sp_next (seed ^^^ (x * 40503))) % rs_ws wN 12) 12 0))) (by unfold rs_wn; rw [edg]; first | rw [if_pos hk7] | rw [if_neg (by omega)]) ?_
          refine lv_istore (lv' := [(5, .int (nI (rs_wn (K + P) (rs_dg wN (sp_dn (sp_next (seed ^^^ (x * 40503))) % rs_ws wN 12) 12 0)))), (7, .int (nI (K + P))), (6, .int (nI so)), (4, .int (nI (sp_dn (sp_next (seed ^^^ (x * 40503))) % rs_ws wN 12))), (3, .int (nI t)), (0, .ref mo), (1, .int (nI j)), (2, .int x)]) hx hb dX6_rowOf_127 hl (by decide) rfl (fun ls hl => ?_)
          refine lv_lconst (v := 0) hx hb dX6_rowOf_129 (by decide) ?_
          refine lv_lstore (lv' := [(8, .long 0), (5, .int (nI (rs_wn (K + P) (rs_dg wN (sp_dn (sp_next (seed ^^^ (x * 40503))) % rs_ws wN 12) 12 0)))), (7, .int (nI (K + P))), (6, .int (nI so)), (4, .int (nI (sp_dn (sp_next (seed ^^^ (x * 40503))) % rs_ws wN 12))), (3, .int (nI t)), (0, .ref mo), (1, .int (nI j)), (2, .int x)]) hx hb dX6_rowOf_130 hl (by decide) rfl (fun ls hl => ?_)
          refine lv_iconst (v := 0) hx hb dX6_rowOf_132 (by decide) ?_
          refine lv_istore (lv' := [(10, .int 0), (8, .long 0), (5, .int (nI (rs_wn (K + P) (rs_dg wN (sp_dn (sp_next (seed ^^^ (x * 40503))) % rs_ws wN 12) 12 0)))), (7, .int (nI (K + P))), (6, .int (nI so)), (4, .int (nI (sp_dn (sp_next (seed ^^^ (x * 40503))) % rs_ws wN 12))), (3, .int (nI t)), (0, .ref mo), (1, .int (nI j)), (2, .int x)]) hx hb dX6_rowOf_133 hl (by decide) rfl (fun ls hl => ?_)
          have hi_hwn : (rs_wn (K + P) (rs_dg wN (sp_dn (sp_next (seed ^^^ (x * 40503))) % rs_ws wN 12) 12 0)) ≤ K + P := (rs_wn_le _ _)
          have hi_hk : 0 ≤ (rs_wn (K + P) (rs_dg wN (sp_dn (sp_next (seed ^^^ (x * 40503))) % rs_ws wN 12) 12 0)) := (Nat.zero_le _)
          have hi_hrem2 : sp_rowl (K + P) ((rs_wn (K + P) (rs_dg wN (sp_dn (sp_next (seed ^^^ (x * 40503))) % rs_ws wN 12) 12 0)) - 0) (sp_next (seed ^^^ (x * 40503))) 0 = sp_rowl (K + P) (rs_wn (K + P) (rs_dg wN (sp_dn (sp_next (seed ^^^ (x * 40503))) % rs_ws wN 12) 12 0)) (sp_next (seed ^^^ (x * 40503))) 0 := rfl
          have hi_hcb : rs_cb 0 (K + P) = 0 := (rs_cb_0 (by omega))
          have hl9 : lv_has ls 12 [(10, .int (nI 0)), (8, .long 0), (5, .int (nI (rs_wn (K + P) (rs_dg wN (sp_dn (sp_next (seed ^^^ (x * 40503))) % rs_ws wN 12) 12 0)))), (7, .int (nI (K + P))), (6, .int (nI so)), (4, .int (nI (sp_dn (sp_next (seed ^^^ (x * 40503))) % rs_ws wN 12))), (3, .int (nI t)), (0, .ref mo), (1, .int (nI j)), (2, .int x)] := lv_sub hl [0, 1, 2, 3, 4, 5, 6, 7, 8, 9] rfl
          refine k_loop3 (I := fun (k : Nat) (z1 : Int32) (y : Int64) (H : Heap) (locs : List Loc) (ls : Array Slot) => ((rs_wn (K + P) (rs_dg wN (sp_dn (sp_next (seed ^^^ (x * 40503))) % rs_ws wN 12) 12 0)) ≤ K + P) ∧ (k ≤ (rs_wn (K + P) (rs_dg wN (sp_dn (sp_next (seed ^^^ (x * 40503))) % rs_ws wN 12) 12 0))) ∧ (sp_rowl (K + P) ((rs_wn (K + P) (rs_dg wN (sp_dn (sp_next (seed ^^^ (x * 40503))) % rs_ws wN 12) 12 0)) - k) z1 y = sp_rowl (K + P) (rs_wn (K + P) (rs_dg wN (sp_dn (sp_next (seed ^^^ (x * 40503))) % rs_ws wN 12) 12 0)) (sp_next (seed ^^^ (x * 40503))) 0) ∧ (rs_cb y (K + P) = k) ∧ lv_has ls 12 [(10, .int (nI k)), (8, .long y), (5, .int (nI (rs_wn (K + P) (rs_dg wN (sp_dn (sp_next (seed ^^^ (x * 40503))) % rs_ws wN 12) 12 0)))), (7, .int (nI (K + P))), (6, .int (nI so)), (4, .int (nI (sp_dn (sp_next (seed ^^^ (x * 40503))) % rs_ws wN 12))), (3, .int (nI t)), (0, .ref mo), (1, .int (nI j)), (2, .int x)] ∧ va_P (dC, dI) vwCl [(mk, .inl (cA 0, 4, .inl kf)), (mp, .inl (cA 0, 4, .inl pf)), (me, .inl (cA 0, 4, .inl ef)), (mtb, .inl (cA 0, 52, .inl tbf)), (mo, .inr (6, [.ref mw, .int (nI cnt), .ref mk, .ref mp, .ref mz, .ref me, .ref mtb, .ref my, .ref mx, .ref mu, .ref mn, .ref mg, .int hf, .int fro, .ref mf, .int (nI fsz), .ref mi, .int (nI isz), .int z1, .ref mh, .ref mv, .int (nI rk), .long lf, .long lo, .ref ms]))] H ∧ va_D A [(mk, .inl (cA 0, 4, .inl kf)), (mp, .inl (cA 0, 4, .inl pf)), (me, .inl (cA 0, 4, .inl ef)), (mtb, .inl (cA 0, 52, .inl tbf)), (mo, .inr (6, [.ref mw, .int (nI cnt), .ref mk, .ref mp, .ref mz, .ref me, .ref mtb, .ref my, .ref mx, .ref mu, .ref mn, .ref mg, .int hf, .int fro, .ref mf, .int (nI fsz), .ref mi, .int (nI isz), .int z1, .ref mh, .ref mv, .int (nI rk), .long lf, .long lo, .ref ms]))] ∧ va_S A s.heap H locs) (μ := fun k z1 y => (rs_wn (K + P) (rs_dg wN (sp_dn (sp_next (seed ^^^ (x * 40503))) % rs_ws wN 12) 12 0)) - k) ?_ 0 (sp_next (seed ^^^ (x * 40503))) 0 ⟨hi_hwn, hi_hk, hi_hrem2, hi_hcb, hl9, hP, hD, hS⟩
          intro k z1 y H locs ls hI9 ih_L2
          obtain ⟨hwn, hk, hrem2, hcb, hl, hP, hD, hS⟩ := hI9
          refine lv_iload hx hb dX6_rowOf_135 (lv_at hl 0 rfl) ?_
          refine lv_iload hx hb dX6_rowOf_137 (lv_at hl 2 rfl) ?_
          refine lv_icmp_ge (tgt := 190) hx hb dX6_rowOf_139 (by decide) (fun c_10 => ?_) (fun c_10 => ?_)
          · have c_10 : (nI (rs_wn (K + P) (rs_dg wN (sp_dn (sp_next (seed ^^^ (x * 40503))) % rs_ws wN 12) 12 0))) ≤ (nI k) := c_10
            have hk9 : (rs_wn (K + P) (rs_dg wN (sp_dn (sp_next (seed ^^^ (x * 40503))) % rs_ws wN 12) 12 0)) ≤ k := (ku_le (a := (rs_wn (K + P) (rs_dg wN (sp_dn (sp_next (seed ^^^ (x * 40503))) % rs_ws wN 12) 12 0))) (b := k) (by omega) (by omega)).mp c_10
            refine lv_lload hx hb dX6_rowOf_190 (lv_at hl 1 rfl) ?_
            have hP9 := hP.sub (ws' := [(mo, .inr (6, [.ref mw, .int (nI cnt), .ref mk, .ref mp, .ref mz, .ref me, .ref mtb, .ref my, .ref mx, .ref mu, .ref mn, .ref mg, .int hf, .int fro, .ref mf, .int (nI fsz), .ref mi, .int (nI isz), .int z1, .ref mh, .ref mv, .int (nI rk), .long lf, .long lo, .ref ms])), (mk, .inl (cA 0, 4, .inl kf)), (mp, .inl (cA 0, 4, .inl pf)), (me, .inl (cA 0, 4, .inl ef)), (mtb, .inl (cA 0, 52, .inl tbf))]) [4, 0, 1, 2, 3] rfl
            have hD9 := hD.sub (ws' := [(mo, .inr (6, [.ref mw, .int (nI cnt), .ref mk, .ref mp, .ref mz, .ref me, .ref mtb, .ref my, .ref mx, .ref mu, .ref mn, .ref mg, .int hf, .int fro, .ref mf, .int (nI fsz), .ref mi, .int (nI isz), .int z1, .ref mh, .ref mv, .int (nI rk), .long lf, .long lo, .ref ms])), (mk, .inl (cA 0, 4, .inl kf)), (mp, .inl (cA 0, 4, .inl pf)), (me, .inl (cA 0, 4, .inl ef)), (mtb, .inl (cA 0, 52, .inl tbf))]) [4, 0, 1, 2, 3] (by decide) rfl
            exact W.lret (v := y) hx hb hr (fun t9 ht9 hW9 => ⟨⟨y, z1, rfl, (by unfold rs_row; rw [if_pos hb0, ← hrem2, show (rs_wn (K + P) (rs_dg wN (sp_dn (sp_next (seed ^^^ (x * 40503))) % rs_ws wN 12) 12 0)) - k = 0 from (by omega)]; rfl), by rw [ht9]; exact hP9, hD9⟩, hS.F ht9⟩) hS.2.2 dX6_rowOf_192
          · have c_10 : ¬ ((nI (rs_wn (K + P) (rs_dg wN (sp_dn (sp_next (seed ^^^ (x * 40503))) % rs_ws wN 12) 12 0))) ≤ (nI k)) := c_10
            have hk9 : k < (rs_wn (K + P) (rs_dg wN (sp_dn (sp_next (seed ^^^ (x * 40503))) % rs_ws wN 12) 12 0)) := (ku_nle (a := (rs_wn (K + P) (rs_dg wN (sp_dn (sp_next (seed ^^^ (x * 40503))) % rs_ws wN 12) 12 0))) (b := k) (by omega) (by omega)).mp c_10
            refine lv_aload_n hx hb dX6_rowOf_142 rfl (lv_at hl 7 rfl) ?_
            have hPc := hP.sub (ws' := [(mo, .inr (6, [.ref mw, .int (nI cnt), .ref mk, .ref mp, .ref mz, .ref me, .ref mtb, .ref my, .ref mx, .ref mu, .ref mn, .ref mg, .int hf, .int fro, .ref mf, .int (nI fsz), .ref mi, .int (nI isz), .int z1, .ref mh, .ref mv, .int (nI rk), .long lf, .long lo, .ref ms]))]) [4] rfl
            have hDc := hD.sub (ws' := [(mo, .inr (6, [.ref mw, .int (nI cnt), .ref mk, .ref mp, .ref mz, .ref me, .ref mtb, .ref my, .ref mx, .ref mu, .ref mn, .ref mg, .int hf, .int fro, .ref mf, .int (nI fsz), .ref mi, .int (nI isz), .int z1, .ref mh, .ref mv, .int (nI rk), .long lf, .long lo, .ref ms]))]) [4] (by decide) rfl
            have hFc := va_free (wc := [(mo, .inr (6, [.ref mw, .int (nI cnt), .ref mk, .ref mp, .ref mz, .ref me, .ref mtb, .ref my, .ref mx, .ref mu, .ref mn, .ref mg, .int hf, .int fro, .ref mf, .int (nI fsz), .ref mi, .int (nI isz), .int z1, .ref mh, .ref mv, .int (nI rk), .long lf, .long lo, .ref ms]))]) hD hS hA [4] rfl
            refine va_calli (va_runV (As := []) (rest := []) ⟨hx, hb, hml, hown, hts⟩ (c_M_drawn l dC dI cA H.size mo mw mk mp mz me mtb my mx mu mn mg mf mi mh mv ms cnt hf fro fsz isz z1 rk lf lo) (cwV 0 hts (kg_V tb_334 tb_335 tb_336 tb_318 tb_333) rfl rfl rfl (by decide +kernel) ⟨Nat.le_of_ble_eq_true rfl, Nat.le_of_ble_eq_true rfl⟩) (kpv_rw hK hN hPc hDc (ci := 6) (q0 := 0) rfl rfl rfl) rfl rfl hl.1 rfl (lv_room (Nat.le_of_ble_eq_true rfl)) dX6_rowOf_143 ⟨Nat.le_of_ble_eq_true rfl, Nat.le_of_ble_eq_true rfl⟩) hS (fun q _ h => hFc q h) hFc (fun r_11 u9 t9 H1 locs ht9 hvm9 hr_11 hB hz1 hk1 hS => ?_)
            obtain ⟨hP1, hD1⟩ := hB
            rw [ht9] at hP1
            obtain ⟨hP, hD⟩ := va_join (wr := [(mk, .inl (cA 0, 4, .inl kf)), (mp, .inl (cA 0, 4, .inl pf)), (me, .inl (cA 0, 4, .inl ef)), (mtb, .inl (cA 0, 52, .inl tbf))]) (w1 := [(mo, .inr (6, [.ref mw, .int (nI cnt), .ref mk, .ref mp, .ref mz, .ref me, .ref mtb, .ref my, .ref mx, .ref mu, .ref mn, .ref mg, .int hf, .int fro, .ref mf, .int (nI fsz), .ref mi, .int (nI isz), .int (sp_next z1), .ref mh, .ref mv, .int (nI rk), .long lf, .long lo, .ref ms]))]) hP hD [4] [0, 1, 2, 3] rfl rfl (by decide) (by decide) hk1 hFc hP1 hD1
            generalize H1 = H at hP hS ⊢
            have hP : va_P (dC, dI) vwCl [(mk, .inl (cA 0, 4, .inl kf)), (mp, .inl (cA 0, 4, .inl pf)), (me, .inl (cA 0, 4, .inl ef)), (mtb, .inl (cA 0, 52, .inl tbf)), (mo, .inr (6, [.ref mw, .int (nI cnt), .ref mk, .ref mp, .ref mz, .ref me, .ref mtb, .ref my, .ref mx, .ref mu, .ref mn, .ref mg, .int hf, .int fro, .ref mf, .int (nI fsz), .ref mi, .int (nI isz), .int (sp_next z1), .ref mh, .ref mv, .int (nI rk), .long lf, .long lo, .ref ms]))] H := hP
            have hD : va_D A [(mk, .inl (cA 0, 4, .inl kf)), (mp, .inl (cA 0, 4, .inl pf)), (me, .inl (cA 0, 4, .inl ef)), (mtb, .inl (cA 0, 52, .inl tbf)), (mo, .inr (6, [.ref mw, .int (nI cnt), .ref mk, .ref mp, .ref mz, .ref me, .ref mtb, .ref my, .ref mx, .ref mu, .ref mn, .ref mg, .int hf, .int fro, .ref mf, .int (nI fsz), .ref mi, .int (nI isz), .int (sp_next z1), .ref mh, .ref mv, .int (nI rk), .long lf, .long lo, .ref ms]))] := hD
            refine kt_i (y := jv_ushr (sp_next z1) (1 : Int32)) hr_11 ?_
            refine lv_iload hx hb dX6_rowOf_146 (lv_at hl 3 rfl) ?_
            refine lv_irem hx hb dX6_rowOf_148 (nI_ne0 (by omega) (by omega)) ?_
            refine kt_i (y := nI (sp_dn (sp_next z1) % (K + P))) (rs_rem _ (by omega) (by omega)) ?_
            refine lv_istore (lv' := [(11, .int (nI (sp_dn (sp_next z1) % (K + P)))), (10, .int (nI k)), (8, .long y), (5, .int (nI (rs_wn (K + P) (rs_dg wN (sp_dn (sp_next (seed ^^^ (x * 40503))) % rs_ws wN 12) 12 0)))), (7, .int (nI (K + P))), (6, .int (nI so)), (4, .int (nI (sp_dn (sp_next (seed ^^^ (x * 40503))) % rs_ws wN 12))), (3, .int (nI t)), (0, .ref mo), (1, .int (nI j)), (2, .int x)]) hx hb dX6_rowOf_149 hl (by decide) rfl (fun ls hl => ?_)
            have hi_hq : 0 ≤ K + P := (by omega)
            have hi_hi : (sp_dn (sp_next z1) % (K + P)) < K + P := (Nat.mod_lt _ (by omega))
            have hi_hrem3 : sp_fo (K + P) y (K + P - 0) (sp_dn (sp_next z1) % (K + P)) = sp_fo (K + P) y (K + P) (sp_dn (sp_next z1) % (K + P)) := rfl
            have hl9 : lv_has ls 12 [(11, .int (nI (sp_dn (sp_next z1) % (K + P)))), (10, .int (nI k)), (8, .long y), (5, .int (nI (rs_wn (K + P) (rs_dg wN (sp_dn (sp_next (seed ^^^ (x * 40503))) % rs_ws wN 12) 12 0)))), (7, .int (nI (K + P))), (6, .int (nI so)), (4, .int (nI (sp_dn (sp_next (seed ^^^ (x * 40503))) % rs_ws wN 12))), (3, .int (nI t)), (0, .ref mo), (1, .int (nI j)), (2, .int x)] := lv_sub hl [0, 1, 2, 3, 4, 5, 6, 7, 8, 9, 10] rfl
            refine k_loop2 (I := fun (q : Nat) (i : Nat) (H : Heap) (locs : List Loc) (ls : Array Slot) => (q ≤ K + P) ∧ (i < K + P) ∧ (sp_fo (K + P) y (K + P - q) i = sp_fo (K + P) y (K + P) (sp_dn (sp_next z1) % (K + P))) ∧ lv_has ls 12 [(11, .int (nI i)), (10, .int (nI k)), (8, .long y), (5, .int (nI (rs_wn (K + P) (rs_dg wN (sp_dn (sp_next (seed ^^^ (x * 40503))) % rs_ws wN 12) 12 0)))), (7, .int (nI (K + P))), (6, .int (nI so)), (4, .int (nI (sp_dn (sp_next (seed ^^^ (x * 40503))) % rs_ws wN 12))), (3, .int (nI t)), (0, .ref mo), (1, .int (nI j)), (2, .int x)] ∧ va_P (dC, dI) vwCl [(mk, .inl (cA 0, 4, .inl kf)), (mp, .inl (cA 0, 4, .inl pf)), (me, .inl (cA 0, 4, .inl ef)), (mtb, .inl (cA 0, 52, .inl tbf)), (mo, .inr (6, [.ref mw, .int (nI cnt), .ref mk, .ref mp, .ref mz, .ref me, .ref mtb, .ref my, .ref mx, .ref mu, .ref mn, .ref mg, .int hf, .int fro, .ref mf, .int (nI fsz), .ref mi, .int (nI isz), .int (sp_next z1), .ref mh, .ref mv, .int (nI rk), .long lf, .long lo, .ref ms]))] H ∧ va_D A [(mk, .inl (cA 0, 4, .inl kf)), (mp, .inl (cA 0, 4, .inl pf)), (me, .inl (cA 0, 4, .inl ef)), (mtb, .inl (cA 0, 52, .inl tbf)), (mo, .inr (6, [.ref mw, .int (nI cnt), .ref mk, .ref mp, .ref mz, .ref me, .ref mtb, .ref my, .ref mx, .ref mu, .ref mn, .ref mg, .int hf, .int fro, .ref mf, .int (nI fsz), .ref mi, .int (nI isz), .int (sp_next z1), .ref mh, .ref mv, .int (nI rk), .long lf, .long lo, .ref ms]))] ∧ va_S A s.heap H locs) (μ := fun q i => K + P - q) ?_ 0 (sp_dn (sp_next z1) % (K + P)) ⟨hi_hq, hi_hi, hi_hrem3, hl9, hP, hD, hS⟩
            intro q i H locs ls hI9 ih_L3
            obtain ⟨hq, hi, hrem3, hl, hP, hD, hS⟩ := hI9
            have hfree := rs_free hcb (by omega : k < K + P) (Nat.mod_lt (sp_dn (sp_next z1)) (by omega : 0 < K + P)) (by omega)
            refine lv_lload hx hb dX6_rowOf_151 (lv_at hl 2 rfl) ?_
            refine lv_iload hx hb dX6_rowOf_153 (lv_at hl 0 rfl) ?_
            refine lv_lshr (v := jv_lshr y (nI i)) hx hb dX6_rowOf_155 rfl ?_
            refine lv_lconst (v := 1) hx hb dX6_rowOf_156 (by decide) ?_
            refine lv_land hx hb dX6_rowOf_157 ?_
            refine lv_lconst (v := 1) hx hb dX6_rowOf_158 (by decide) ?_
            refine W.lcmp hx hb dX6_rowOf_159 ?_
            refine lv_if_ne (tgt := 175) hx hb dX6_rowOf_160 (by decide) (fun c_12 => ?_) (fun c_12 => ?_)
            · have c_12 : ¬ ((lg_cmp ((jv_lshr y (nI i)) &&& 1) 1) = 0) := c_12
              have hbit : sp_bit y (nI i) = 0 := rs_bit0 (by omega) c_12
              have hfin : sp_fo (K + P) y (K + P) (sp_dn (sp_next z1) % (K + P)) = i := rs_fo_end hrem3 hbit
              refine lv_lload hx hb dX6_rowOf_175 (lv_at hl 2 rfl) ?_
              refine lv_lconst (v := 1) hx hb dX6_rowOf_177 (by decide) ?_
              refine lv_iload hx hb dX6_rowOf_178 (lv_at hl 0 rfl) ?_
              refine lv_lshl (v := jv_lshl 1 (nI i)) hx hb dX6_rowOf_180 rfl ?_
              refine lv_lor hx hb dX6_rowOf_181 ?_
              refine lv_lstore (lv' := [(8, .long (y ||| (jv_lshl 1 (nI i)))), (11, .int (nI i)), (10, .int (nI k)), (5, .int (nI (rs_wn (K + P) (rs_dg wN (sp_dn (sp_next (seed ^^^ (x * 40503))) % rs_ws wN 12) 12 0)))), (7, .int (nI (K + P))), (6, .int (nI so)), (4, .int (nI (sp_dn (sp_next (seed ^^^ (x * 40503))) % rs_ws wN 12))), (3, .int (nI t)), (0, .ref mo), (1, .int (nI j)), (2, .int x)]) hx hb dX6_rowOf_182 hl (by decide) rfl (fun ls hl => ?_)
              refine lv_iinc (v := nI (k + 1)) (lv' := [(10, .int (nI (k + 1))), (8, .long (y ||| (jv_lshl 1 (nI i)))), (11, .int (nI i)), (5, .int (nI (rs_wn (K + P) (rs_dg wN (sp_dn (sp_next (seed ^^^ (x * 40503))) % rs_ws wN 12) 12 0)))), (7, .int (nI (K + P))), (6, .int (nI so)), (4, .int (nI (sp_dn (sp_next (seed ^^^ (x * 40503))) % rs_ws wN 12))), (3, .int (nI t)), (0, .ref mo), (1, .int (nI j)), (2, .int x)]) hx hb dX6_rowOf_184 hl (k := 2) rfl (nI_succ _).symm (by decide) rfl (fun ls hl => ?_)
              refine lv_goto (tgt := 135) hx hb dX6_rowOf_187 (by decide) ?_
              have hi_hwn : (rs_wn (K + P) (rs_dg wN (sp_dn (sp_next (seed ^^^ (x * 40503))) % rs_ws wN 12) 12 0)) ≤ K + P := hwn
              have hi_hk : (k + 1) ≤ (rs_wn (K + P) (rs_dg wN (sp_dn (sp_next (seed ^^^ (x * 40503))) % rs_ws wN 12) 12 0)) := (by omega)
              have hi_hrem2 : sp_rowl (K + P) ((rs_wn (K + P) (rs_dg wN (sp_dn (sp_next (seed ^^^ (x * 40503))) % rs_ws wN 12) 12 0)) - (k + 1)) (sp_next z1) (y ||| (jv_lshl 1 (nI i))) = sp_rowl (K + P) (rs_wn (K + P) (rs_dg wN (sp_dn (sp_next (seed ^^^ (x * 40503))) % rs_ws wN 12) 12 0)) (sp_next (seed ^^^ (x * 40503))) 0 := (by rw [← hrem2, show (rs_wn (K + P) (rs_dg wN (sp_dn (sp_next (seed ^^^ (x * 40503))) % rs_ws wN 12) 12 0)) - k = ((rs_wn (K + P) (rs_dg wN (sp_dn (sp_next (seed ^^^ (x * 40503))) % rs_ws wN 12) 12 0)) - (k + 1)) + 1 from (by omega), ← hfin]; rfl)
              have hi_hcb : rs_cb (y ||| (jv_lshl 1 (nI i))) (K + P) = (k + 1) := (by rw [← hfin]; exact rs_cb_s hcb hfree (sp_fo_lt (by omega) _ _ (Nat.mod_lt _ (by omega))) (by omega))
              have hl9 : lv_has ls 12 [(10, .int (nI (k + 1))), (8, .long (y ||| (jv_lshl 1 (nI i)))), (5, .int (nI (rs_wn (K + P) (rs_dg wN (sp_dn (sp_next (seed ^^^ (x * 40503))) % rs_ws wN 12) 12 0)))), (7, .int (nI (K + P))), (6, .int (nI so)), (4, .int (nI (sp_dn (sp_next (seed ^^^ (x * 40503))) % rs_ws wN 12))), (3, .int (nI t)), (0, .ref mo), (1, .int (nI j)), (2, .int x)] := lv_sub hl [0, 1, 3, 4, 5, 6, 7, 8, 9, 10] rfl
              have hP9 : va_P (dC, dI) vwCl [(mk, .inl (cA 0, 4, .inl kf)), (mp, .inl (cA 0, 4, .inl pf)), (me, .inl (cA 0, 4, .inl ef)), (mtb, .inl (cA 0, 52, .inl tbf)), (mo, .inr (6, [.ref mw, .int (nI cnt), .ref mk, .ref mp, .ref mz, .ref me, .ref mtb, .ref my, .ref mx, .ref mu, .ref mn, .ref mg, .int hf, .int fro, .ref mf, .int (nI fsz), .ref mi, .int (nI isz), .int (sp_next z1), .ref mh, .ref mv, .int (nI rk), .long lf, .long lo, .ref ms]))] H := hP
              have hD9 : va_D A [(mk, .inl (cA 0, 4, .inl kf)), (mp, .inl (cA 0, 4, .inl pf)), (me, .inl (cA 0, 4, .inl ef)), (mtb, .inl (cA 0, 52, .inl tbf)), (mo, .inr (6, [.ref mw, .int (nI cnt), .ref mk, .ref mp, .ref mz, .ref me, .ref mtb, .ref my, .ref mx, .ref mu, .ref mn, .ref mg, .int hf, .int fro, .ref mf, .int (nI fsz), .ref mi, .int (nI isz), .int (sp_next z1), .ref mh, .ref mv, .int (nI rk), .long lf, .long lo, .ref ms]))] := hD
              exact ih_L2 (k + 1) (sp_next z1) (y ||| (jv_lshl 1 (nI i))) H locs ls ⟨hi_hwn, hi_hk, hi_hrem2, hi_hcb, hl9, hP9, hD9, hS⟩ (by show (rs_wn (K + P) (rs_dg wN (sp_dn (sp_next (seed ^^^ (x * 40503))) % rs_ws wN 12) 12 0)) - (k + 1) < (rs_wn (K + P) (rs_dg wN (sp_dn (sp_next (seed ^^^ (x * 40503))) % rs_ws wN 12) 12 0)) - k; omega)
            · have c_12 : (lg_cmp ((jv_lshr y (nI i)) &&& 1) 1) = 0 := c_12
              have hbit : ¬ sp_bit y (nI i) = 0 := rs_bit1 (by omega) c_12
              have hqlt : q < K + P := rs_fo_lt hq hrem3 hbit hfree
              refine lv_iload hx hb dX6_rowOf_163 (lv_at hl 0 rfl) ?_
              refine lv_iconst (v := 1) hx hb dX6_rowOf_165 (by decide) ?_
              refine lv_iadd hx hb dX6_rowOf_166 ?_
              refine kt_i (y := nI (i + 1)) (nI_add i 1) ?_
              refine lv_iload hx hb dX6_rowOf_167 (lv_at hl 4 rfl) ?_
              refine lv_irem hx hb dX6_rowOf_169 (nI_ne0 (by omega) (by omega)) ?_
              refine kt_i (y := nI ((i + 1) % (K + P))) (pk_rem (by omega) (by omega) (by omega)) ?_
              refine lv_istore (lv' := [(11, .int (nI ((i + 1) % (K + P)))), (10, .int (nI k)), (8, .long y), (5, .int (nI (rs_wn (K + P) (rs_dg wN (sp_dn (sp_next (seed ^^^ (x * 40503))) % rs_ws wN 12) 12 0)))), (7, .int (nI (K + P))), (6, .int (nI so)), (4, .int (nI (sp_dn (sp_next (seed ^^^ (x * 40503))) % rs_ws wN 12))), (3, .int (nI t)), (0, .ref mo), (1, .int (nI j)), (2, .int x)]) hx hb dX6_rowOf_170 hl (by decide) rfl (fun ls hl => ?_)
              refine lv_goto (tgt := 151) hx hb dX6_rowOf_172 (by decide) ?_
              have hi_hq : (q + 1) ≤ K + P := (by omega)
              have hi_hi : ((i + 1) % (K + P)) < K + P := (Nat.mod_lt _ (by omega))
              have hi_hrem3 : sp_fo (K + P) y (K + P - (q + 1)) ((i + 1) % (K + P)) = sp_fo (K + P) y (K + P) (sp_dn (sp_next z1) % (K + P)) := (by rw [← hrem3, show K + P - q = (K + P - (q + 1)) + 1 from (by omega)]; exact (rs_fo_s hi hbit).symm)
              have hl9 : lv_has ls 12 [(11, .int (nI ((i + 1) % (K + P)))), (10, .int (nI k)), (8, .long y), (5, .int (nI (rs_wn (K + P) (rs_dg wN (sp_dn (sp_next (seed ^^^ (x * 40503))) % rs_ws wN 12) 12 0)))), (7, .int (nI (K + P))), (6, .int (nI so)), (4, .int (nI (sp_dn (sp_next (seed ^^^ (x * 40503))) % rs_ws wN 12))), (3, .int (nI t)), (0, .ref mo), (1, .int (nI j)), (2, .int x)] := lv_sub hl [0, 1, 2, 3, 4, 5, 6, 7, 8, 9, 10] rfl
              have hP9 : va_P (dC, dI) vwCl [(mk, .inl (cA 0, 4, .inl kf)), (mp, .inl (cA 0, 4, .inl pf)), (me, .inl (cA 0, 4, .inl ef)), (mtb, .inl (cA 0, 52, .inl tbf)), (mo, .inr (6, [.ref mw, .int (nI cnt), .ref mk, .ref mp, .ref mz, .ref me, .ref mtb, .ref my, .ref mx, .ref mu, .ref mn, .ref mg, .int hf, .int fro, .ref mf, .int (nI fsz), .ref mi, .int (nI isz), .int (sp_next z1), .ref mh, .ref mv, .int (nI rk), .long lf, .long lo, .ref ms]))] H := hP
              have hD9 : va_D A [(mk, .inl (cA 0, 4, .inl kf)), (mp, .inl (cA 0, 4, .inl pf)), (me, .inl (cA 0, 4, .inl ef)), (mtb, .inl (cA 0, 52, .inl tbf)), (mo, .inr (6, [.ref mw, .int (nI cnt), .ref mk, .ref mp, .ref mz, .ref me, .ref mtb, .ref my, .ref mx, .ref mu, .ref mn, .ref mg, .int hf, .int fro, .ref mf, .int (nI fsz), .ref mi, .int (nI isz), .int (sp_next z1), .ref mh, .ref mv, .int (nI rk), .long lf, .long lo, .ref ms]))] := hD
              exact ih_L3 (q + 1) ((i + 1) % (K + P)) H locs ls ⟨hi_hq, hi_hi, hi_hrem3, hl9, hP9, hD9, hS⟩ (by show K + P - (q + 1) < K + P - q; omega)
      · have c_4 : ¬ ((nI (sp_dn (sp_next (seed ^^^ (x * 40503))) % rs_ws wN 12)) < (nI so)) := c_4
        have hle : so ≤ (sp_dn (sp_next (seed ^^^ (x * 40503))) % rs_ws wN 12) := by have := mt (nI_ltI (a := (sp_dn (sp_next (seed ^^^ (x * 40503))) % rs_ws wN 12)) (b := so) (by omega) (by omega)).mpr c_4; omega
        have hlt12 : dg < 12 := rs_lt12 hso hle hTT hdg
        refine lv_iinc (v := nI (dg + 1)) (lv' := [(5, .int (nI (dg + 1))), (6, .int (nI so)), (4, .int (nI (sp_dn (sp_next (seed ^^^ (x * 40503))) % rs_ws wN 12))), (3, .int (nI t)), (0, .ref mo), (1, .int (nI j)), (2, .int x)]) hx hb dX6_rowOf_83 hl (k := 0) rfl (nI_succ _).symm (by decide) rfl (fun ls hl => ?_)
        refine lv_iload hx hb dX6_rowOf_86 (lv_at hl 1 rfl) ?_
        refine lv_aload_n hx hb dX6_rowOf_88 rfl (lv_at hl 4 rfl) ?_
        refine va_get (D := (dC, dI)) (ci := 6) (v := .ref mtb) (C := RX6) (T := TX6) (N := 25) hx hb hts inX6 hown hK hP 4 rfl rfl 6 (by decide) hk_4 (fun _ h9 => h9) rfl dX6_rowOf_89 ?_
        refine lv_bipush (v := 13) hx hb dX6_rowOf_92 (by decide) ?_
        refine lv_iload_n hx hb dX6_rowOf_94 rfl (lv_at hl 5 rfl) ?_
        refine lv_imul hx hb dX6_rowOf_95 ?_
        refine kt_i (y := nI (13 * j)) (pk_mul 13 j) ?_
        refine lv_iload hx hb dX6_rowOf_96 (lv_at hl 0 rfl) ?_
        refine lv_iadd hx hb dX6_rowOf_98 ?_
        refine kt_i (y := nI ((13 * j) + (dg + 1))) (nI_add (13 * j) (dg + 1)) ?_
        refine va_iald (D := (dC, dI)) hx hb hK hP 3 0 rfl rfl (vp_in_nI (by omega) (by omega)) dX6_rowOf_99 ?_
        refine kt_i (congrArg tbf (nI_clamp (by omega : ((13 * j) + (dg + 1)) < 2 ^ 31))) ?_
        refine kt_i (y := nI (wN (dg + 1))) (hw (dg + 1) (by omega)) ?_
        refine lv_iadd hx hb dX6_rowOf_100 ?_
        refine kt_i (y := nI (so + (wN (dg + 1)))) (nI_add so (wN (dg + 1))) ?_
        refine lv_istore (lv' := [(6, .int (nI (so + (wN (dg + 1))))), (5, .int (nI (dg + 1))), (4, .int (nI (sp_dn (sp_next (seed ^^^ (x * 40503))) % rs_ws wN 12))), (3, .int (nI t)), (0, .ref mo), (1, .int (nI j)), (2, .int x)]) hx hb dX6_rowOf_101 hl (by decide) rfl (fun ls hl => ?_)
        refine lv_goto (tgt := 76) hx hb dX6_rowOf_103 (by decide) ?_
        have hi_hdg : (dg + 1) ≤ 12 := (by omega)
        have hi_hso : (so + (wN (dg + 1))) = rs_ws wN (dg + 1) := (by rw [hso]; rfl)
        have hi_hso2 : (so + (wN (dg + 1))) ≤ 100 * (dg + 1) := (by have := hwb (dg + 1) (by omega); omega)
        have hi_hrem : rs_dg wN (sp_dn (sp_next (seed ^^^ (x * 40503))) % rs_ws wN 12) (12 - (dg + 1)) (dg + 1) = (rs_dg wN (sp_dn (sp_next (seed ^^^ (x * 40503))) % rs_ws wN 12) 12 0) := (by rw [← hrem, show 12 - dg = (12 - (dg + 1)) + 1 from (by omega)]; exact (if_pos (by rw [← hso]; exact hle)).symm)
        have hl9 : lv_has ls 12 [(5, .int (nI (dg + 1))), (6, .int (nI (so + (wN (dg + 1))))), (4, .int (nI (sp_dn (sp_next (seed ^^^ (x * 40503))) % rs_ws wN 12))), (3, .int (nI t)), (0, .ref mo), (1, .int (nI j)), (2, .int x)] := lv_sub hl [1, 0, 2, 3, 4, 5, 6] rfl
        have hP9 : va_P (dC, dI) vwCl [(mk, .inl (cA 0, 4, .inl kf)), (mp, .inl (cA 0, 4, .inl pf)), (me, .inl (cA 0, 4, .inl ef)), (mtb, .inl (cA 0, 52, .inl tbf)), (mo, .inr (6, [.ref mw, .int (nI cnt), .ref mk, .ref mp, .ref mz, .ref me, .ref mtb, .ref my, .ref mx, .ref mu, .ref mn, .ref mg, .int hf, .int fro, .ref mf, .int (nI fsz), .ref mi, .int (nI isz), .int (sp_next (seed ^^^ (x * 40503))), .ref mh, .ref mv, .int (nI rk), .long lf, .long lo, .ref ms]))] H := hP
        have hD9 : va_D A [(mk, .inl (cA 0, 4, .inl kf)), (mp, .inl (cA 0, 4, .inl pf)), (me, .inl (cA 0, 4, .inl ef)), (mtb, .inl (cA 0, 52, .inl tbf)), (mo, .inr (6, [.ref mw, .int (nI cnt), .ref mk, .ref mp, .ref mz, .ref me, .ref mtb, .ref my, .ref mx, .ref mu, .ref mn, .ref mg, .int hf, .int fro, .ref mf, .int (nI fsz), .ref mi, .int (nI isz), .int (sp_next (seed ^^^ (x * 40503))), .ref mh, .ref mv, .int (nI rk), .long lf, .long lo, .ref ms]))] := hD
        exact ih_L1 (dg + 1) (so + (wN (dg + 1))) H locs ls ⟨hi_hdg, hi_hso, hi_hso2, hi_hrem, hl9, hP9, hD9, hS⟩ (by show 12 - (dg + 1) < 12 - dg; omega)
    · have c_2 : ¬ (13 ≤ (nI (d + 1))) := c_2
      have hk9 : (d + 1) < 13 := (ku_nle (a := 13) (b := (d + 1)) (by omega) (by omega)).mp c_2
      refine lv_iload_n hx hb dX6_rowOf_41 rfl (lv_at hl 1 rfl) ?_
      refine lv_aload_n hx hb dX6_rowOf_42 rfl (lv_at hl 2 rfl) ?_
      refine va_get (D := (dC, dI)) (ci := 6) (v := .ref mtb) (C := RX6) (T := TX6) (N := 25) hx hb hts inX6 hown hK hP 0 rfl rfl 6 (by decide) hk_4 (fun _ h9 => h9) rfl dX6_rowOf_43 ?_
      refine lv_bipush (v := 13) hx hb dX6_rowOf_46 (by decide) ?_
      refine lv_iload_n hx hb dX6_rowOf_48 rfl (lv_at hl 3 rfl) ?_
      refine lv_imul hx hb dX6_rowOf_49 ?_
      refine kt_i (y := nI (13 * j)) (pk_mul 13 j) ?_
      refine lv_iload hx hb dX6_rowOf_50 (lv_at hl 0 rfl) ?_
      refine lv_iadd hx hb dX6_rowOf_52 ?_
      refine kt_i (y := nI ((13 * j) + (d + 1))) (nI_add (13 * j) (d + 1)) ?_
      refine va_iald (D := (dC, dI)) hx hb hK hP 4 0 rfl rfl (vp_in_nI (by omega) (by omega)) dX6_rowOf_53 ?_
      refine kt_i (congrArg tbf (nI_clamp (by omega : ((13 * j) + (d + 1)) < 2 ^ 31))) ?_
      refine kt_i (y := nI (wN (d + 1))) (hw (d + 1) (by omega)) ?_
      refine lv_iadd hx hb dX6_rowOf_54 ?_
      refine kt_i (y := nI (t + (wN (d + 1)))) (nI_add t (wN (d + 1))) ?_
      refine lv_istore_n (lv' := [(3, .int (nI (t + (wN (d + 1))))), (4, .int (nI (d + 1))), (0, .ref mo), (1, .int (nI j)), (2, .int x)]) hx hb dX6_rowOf_55 rfl hl (by decide) rfl (fun ls hl => ?_)
      refine lv_iinc (v := nI ((d + 1) + 1)) (lv' := [(4, .int (nI ((d + 1) + 1))), (3, .int (nI (t + (wN (d + 1))))), (0, .ref mo), (1, .int (nI j)), (2, .int x)]) hx hb dX6_rowOf_56 hl (k := 1) rfl (nI_succ _).symm (by decide) rfl (fun ls hl => ?_)
      refine lv_goto (tgt := 34) hx hb dX6_rowOf_59 (by decide) ?_
      have hi_hd : (d + 1) ≤ 12 := (by omega)
      have hi_ht : (t + (wN (d + 1))) = rs_ws wN (d + 1) := (by rw [ht]; rfl)
      have hi_ht2 : (t + (wN (d + 1))) ≤ 100 * (d + 1) := (by have := hwb (d + 1) (by omega); omega)
      have hl9 : lv_has ls 12 [(4, .int (nI ((d + 1) + 1))), (3, .int (nI (t + (wN (d + 1))))), (0, .ref mo), (1, .int (nI j)), (2, .int x)] := lv_sub hl [0, 1, 2, 3, 4] rfl
      have hP9 : va_P (dC, dI) vwCl [(mo, .inr (6, [.ref mw, .int (nI cnt), .ref mk, .ref mp, .ref mz, .ref me, .ref mtb, .ref my, .ref mx, .ref mu, .ref mn, .ref mg, .int hf, .int fro, .ref mf, .int (nI fsz), .ref mi, .int (nI isz), .int (seed ^^^ (x * 40503)), .ref mh, .ref mv, .int (nI rk), .long lf, .long lo, .ref ms])), (mk, .inl (cA 0, 4, .inl kf)), (mp, .inl (cA 0, 4, .inl pf)), (me, .inl (cA 0, 4, .inl ef)), (mtb, .inl (cA 0, 52, .inl tbf))] H := hP
      have hD9 : va_D A [(mo, .inr (6, [.ref mw, .int (nI cnt), .ref mk, .ref mp, .ref mz, .ref me, .ref mtb, .ref my, .ref mx, .ref mu, .ref mn, .ref mg, .int hf, .int fro, .ref mf, .int (nI fsz), .ref mi, .int (nI isz), .int (seed ^^^ (x * 40503)), .ref mh, .ref mv, .int (nI rk), .long lf, .long lo, .ref ms])), (mk, .inl (cA 0, 4, .inl kf)), (mp, .inl (cA 0, 4, .inl pf)), (me, .inl (cA 0, 4, .inl ef)), (mtb, .inl (cA 0, 52, .inl tbf))] := hD
      exact ih_L0 (d + 1) (t + (wN (d + 1))) H locs ls ⟨hi_hd, hi_ht, hi_ht2, hl9, hP9, hD9, hS⟩ (by show 12 - (d + 1) < 12 - d; omega)
  · have c_1 : ¬ ((nI K) ≤ x) := c_1
    have hb0 := c_1
    refine lv_lconst (v := 1) hx hb dX6_rowOf_10 (by decide) ?_
    refine lv_iload_n hx hb dX6_rowOf_11 rfl (lv_at hl 2 rfl) ?_
    refine lv_lshl (v := jv_lshl 1 x) hx hb dX6_rowOf_12 rfl ?_
    have hP9 := hP.sub (ws' := [(mo, .inr (6, [.ref mw, .int (nI cnt), .ref mk, .ref mp, .ref mz, .ref me, .ref mtb, .ref my, .ref mx, .ref mu, .ref mn, .ref mg, .int hf, .int fro, .ref mf, .int (nI fsz), .ref mi, .int (nI isz), .int z, .ref mh, .ref mv, .int (nI rk), .long lf, .long lo, .ref ms])), (mk, .inl (cA 0, 4, .inl kf)), (mp, .inl (cA 0, 4, .inl pf)), (me, .inl (cA 0, 4, .inl ef)), (mtb, .inl (cA 0, 52, .inl tbf))]) [0, 1, 2, 3, 4] rfl
    have hD9 := hD.sub (ws' := [(mo, .inr (6, [.ref mw, .int (nI cnt), .ref mk, .ref mp, .ref mz, .ref me, .ref mtb, .ref my, .ref mx, .ref mu, .ref mn, .ref mg, .int hf, .int fro, .ref mf, .int (nI fsz), .ref mi, .int (nI isz), .int z, .ref mh, .ref mv, .int (nI rk), .long lf, .long lo, .ref ms])), (mk, .inl (cA 0, 4, .inl kf)), (mp, .inl (cA 0, 4, .inl pf)), (me, .inl (cA 0, 4, .inl ef)), (mtb, .inl (cA 0, 52, .inl tbf))]) [0, 1, 2, 3, 4] (by decide) rfl
    exact W.lret (v := jv_lshl 1 x) hx hb hr (fun t9 ht9 hW9 => ⟨⟨jv_lshl 1 x, z, rfl, (by unfold rs_row; rw [if_neg hb0]), by rw [ht9]; exact hP9, hD9⟩, hS.F ht9⟩) hS.2.2 dX6_rowOf_13
