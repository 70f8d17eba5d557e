set_option maxHeartbeats 4000000 in
set_option maxRecDepth 100000 in
theorem c_M_most (l : Launch) (dC : Nat → ClassId) (dI : Nat → Nat → Nat) (cA : Nat → ClassId) (sz : Nat) (mo : Nat) (mw : Nat) (mk : Nat) (mp : Nat) (mz : Nat) (me : Nat) (mtb : Nat) (my : Nat) (mx : Nat) (mu : Nat) (mn : Nat) (mg : Nat) (mf : Nat) (mi : Nat) (mh : Nat) (mv : Nat) (ms : Nat) (cnt : Nat) (hf : Int32) (fro : Int32) (fsz : Nat) (isz : Nat) (z : Int32) (rk : Nat) (lf : Int64) (lo : Int64) (kf : Nat → Int32) (pf : Nat → Int32) (ef : Nat → Int32) (tbf : Nat → Int32) (xsf : Nat → Int32) (j : Nat) (K : Nat) (P : Nat) (seed : Int32) (wN : Nat → Nat) (rc : Nat) (op : Int64) (hj4 : j < 4) (hkf : kf j = nI K) (hpf : pf j = nI P) (hef : ef j = seed) (hK32 : K ≤ 32) (hP8 : P ≤ 8) (hK1 : 1 ≤ K) (hw : ∀ d, d < 13 → tbf (13 * j + d) = nI (wN d)) (hwb : ∀ d, d < 13 → wN d ≤ 100) (htot : 0 < rs_ws wN 12) (hrc : rc ≤ P + 64) : Met l yX6_most (kw_X6_most) ({ frames := 3, cells := 0, slots := 0, locals := 74 }) (va_Pc [.ref mo, .int (nI j), .int (nI rc), .long op] (fun U => kRW dC dI cA [(mo, .inr (6, [.ref mw, .int (nI cnt), .ref mk, .ref mp, .ref mz, .ref me, .ref mtb, .ref my, .ref mx, .ref mu, .ref mn, .ref mg, .int hf, .int fro, .ref mf, .int (nI fsz), .ref mi, .int (nI isz), .int z, .ref mh, .ref mv, .int (nI rk), .long lf, .long lo, .ref ms])), (mk, .inl (cA 0, 4, .inl kf)), (mp, .inl (cA 0, 4, .inl pf)), (me, .inl (cA 0, 4, .inl ef)), (mtb, .inl (cA 0, 52, .inl tbf)), (mx, .inl (cA 0, 256, .inl xsf))] sz U)) (va_Qi (fun r (u : Int32) => r = rs_fi (rs_ms K P seed wN j xsf op rc (K + P)).1) (fun (u : Int32) t => kB dC dI (va_A [(mo, .inr (6, [.ref mw, .int (nI cnt), .ref mk, .ref mp, .ref mz, .ref me, .ref mtb, .ref my, .ref mx, .ref mu, .ref mn, .ref mg, .int hf, .int fro, .ref mf, .int (nI fsz), .ref mi, .int (nI isz), .int z, .ref mh, .ref mv, .int (nI rk), .long lf, .long lo, .ref ms])), (mk, .inl (cA 0, 4, .inl kf)), (mp, .inl (cA 0, 4, .inl pf)), (me, .inl (cA 0, 4, .inl ef)), (mtb, .inl (cA 0, 52, .inl tbf)), (mx, .inl (cA 0, 256, .inl xsf))] sz) [(mo, .inr (6, [.ref mw, .int (nI cnt), .ref mk, .ref mp, .ref mz, .ref me, .ref mtb, .ref my, .ref mx, .ref mu, .ref mn, .ref mg, .int hf, .int fro, .ref mf, .int (nI fsz), .ref mi, .int (nI isz), .int u, .ref mh, .ref mv, .int (nI rk), .long lf, .long lo, .ref ms])), (mk, .inl (cA 0, 4, .inl kf)), (mp, .inl (cA 0, 4, .inl pf)), (me, .inl (cA 0, 4, .inl ef)), (mtb, .inl (cA 0, 52, .inl tbf)), (mx, .inl (cA 0, 256, .inl xsf))] t) (va_A [(mo, .inr (6, [.ref mw, .int (nI cnt), .ref mk, .ref mp, .ref mz, .ref me, .ref mtb, .ref my, .ref mx, .ref mu, .ref mn, .ref mg, .int hf, .int fro, .ref mf, .int (nI fsz), .ref mi, .int (nI isz), .int z, .ref mh, .ref mv, .int (nI rk), .long lf, .long lo, .ref ms])), (mk, .inl (cA 0, 4, .inl kf)), (mp, .inl (cA 0, 4, .inl pf)), (me, .inl (cA 0, 4, .inl ef)), (mtb, .inl (cA 0, 52, .inl tbf)), (mx, .inl (cA 0, 256, .inl xsf))] sz)) 0 0 (va_A [(mo, .inr (6, [.ref mw, .int (nI cnt), .ref mk, .ref mp, .ref mz, .ref me, .ref mtb, .ref my, .ref mx, .ref mu, .ref mn, .ref mg, .int hf, .int fro, .ref mf, .int (nI fsz), .ref mi, .int (nI isz), .int z, .ref mh, .ref mv, .int (nI rk), .long lf, .long lo, .ref ms])), (mk, .inl (cA 0, 4, .inl kf)), (mp, .inl (cA 0, 4, .inl pf)), (me, .inl (cA 0, 4, .inl ef)), (mtb, .inl (cA 0, 52, .inl tbf)), (mx, .inl (cA 0, 256, .inl xsf))] sz) := by
  refine Met.ofW (cc := cX6_most) (maxL := 12) (ret := (some .int)) (by decide) rfl ?_
  intro p e s m args below meth c s₁ B hml hv
  obtain ⟨rfl, hsz, hP, hK, hN, hD0⟩ := hv
  have hx := B.exec
  have hb := B.bytes
  have hr := B.returns
  have hts0 := atoms_spec (ws := (kw_X6_most)) B.pre
  have hts : ∀ w ∈ TB, w.before _ s = true := fun w h => hts0 w (List.mem_cons_of_mem _ h)
  have hown : s.vm.findClass RX6 = some m.cls := findClass_of_methodNamed B.named
  have hlocks := B.notSynchronized
  subst hsz
  have hD := hD0.self (sz := s.heap.size)
  generalize hAe : va_A [(mo, .inr (6, [.ref mw, .int (nI cnt), .ref mk, .ref mp, .ref mz, .ref me, .ref mtb, .ref my, .ref mx, .ref mu, .ref mn, .ref mg, .int hf, .int fro, .ref mf, .int (nI fsz), .ref mi, .int (nI isz), .int z, .ref mh, .ref mv, .int (nI rk), .long lf, .long lo, .ref ms])), (mk, .inl (cA 0, 4, .inl kf)), (mp, .inl (cA 0, 4, .inl pf)), (me, .inl (cA 0, 4, .inl ef)), (mtb, .inl (cA 0, 52, .inl tbf)), (mx, .inl (cA 0, 256, .inl xsf))] s.heap.size = A at hD ⊢
  have hA : ∀ q : Nat, s.heap.size ≤ q → A q := fun q h => by rw [← hAe]; exact Or.inr h
  have hS : va_S A s.heap s.heap [] := va_S.rf
  have hl := lv_entry ([.ref mo, .int (nI j), .int (nI rc), .long op]) (n := 12) (Nat.le_of_ble_eq_true rfl)
  rw [lg_entry_eq]
  generalize (lg_sl ([.ref mo, .int (nI j), .int (nI rc), .long op]) ++ List.replicate (12 - (lg_sl ([.ref mo, .int (nI j), .int (nI rc), .long op])).length) Slot.unset).toArray = ls at hl ⊢
  have hl : lv_has ls 12 [(0, .ref mo), (1, .int (nI j)), (2, .int (nI rc)), (3, .long op)] := hl
  refine lv_iconst (v := (-1)) hx hb dX6_most_0 (by decide) ?_
  refine lv_istore (lv' := [(5, .int (-1)), (0, .ref mo), (1, .int (nI j)), (2, .int (nI rc)), (3, .long op)]) hx hb dX6_most_1 hl (by decide) rfl (fun ls hl => ?_)
  refine lv_iconst (v := 0) hx hb dX6_most_3 (by decide) ?_
  refine lv_istore (lv' := [(6, .int 0), (5, .int (-1)), (0, .ref mo), (1, .int (nI j)), (2, .int (nI rc)), (3, .long op)]) hx hb dX6_most_4 hl (by decide) rfl (fun ls hl => ?_)
  refine lv_iconst (v := 0) hx hb dX6_most_6 (by decide) ?_
  refine lv_istore (lv' := [(7, .int 0), (6, .int 0), (5, .int (-1)), (0, .ref mo), (1, .int (nI j)), (2, .int (nI rc)), (3, .long op)]) hx hb dX6_most_7 hl (by decide) rfl (fun ls hl => ?_)
  have hi_hk : 0 ≤ K + P := (by omega)
  have hi_htt : 0 ≤ rc := (by omega)
  have hi_hot : (none, 0) = rs_ms K P seed wN j xsf op rc 0 := rfl
  have hl9 : lv_has ls 12 [(7, .int (nI 0)), (5, .int (rs_fi none)), (6, .int (nI 0)), (0, .ref mo), (1, .int (nI j)), (2, .int (nI rc)), (3, .long op)] := lv_sub hl [0, 2, 1, 3, 4, 5, 6] rfl
  refine k_loop4 (I := fun (k : Nat) (z1 : Int32) (o1 : Option Nat) (t : Nat) (H : Heap) (locs : List Loc) (ls : Array Slot) => (k ≤ K + P) ∧ (t ≤ rc) ∧ ((o1, t) = rs_ms K P seed wN j xsf op rc k) ∧ lv_has ls 12 [(7, .int (nI k)), (5, .int (rs_fi o1)), (6, .int (nI t)), (0, .ref mo), (1, .int (nI j)), (2, .int (nI rc)), (3, .long op)] ∧ va_P (dC, dI) vwCl [(mo, .inr (6, [.ref mw, .int (nI cnt), .ref mk, .ref mp, .ref mz, .ref me, .ref mtb, .ref my, .ref mx, .ref mu, .ref mn, .ref mg, .int hf, .int fro, .ref mf, .int (nI fsz), .ref mi, .int (nI isz), .int z1, .ref mh, .ref mv, .int (nI rk), .long lf, .long lo, .ref ms])), (mk, .inl (cA 0, 4, .inl kf)), (mp, .inl (cA 0, 4, .inl pf)), (me, .inl (cA 0, 4, .inl ef)), (mtb, .inl (cA 0, 52, .inl tbf)), (mx, .inl (cA 0, 256, .inl xsf))] H ∧ va_D A [(mo, .inr (6, [.ref mw, .int (nI cnt), .ref mk, .ref mp, .ref mz, .ref me, .ref mtb, .ref my, .ref mx, .ref mu, .ref mn, .ref mg, .int hf, .int fro, .ref mf, .int (nI fsz), .ref mi, .int (nI isz), .int z1, .ref mh, .ref mv, .int (nI rk), .long lf, .long lo, .ref ms])), (mk, .inl (cA 0, 4, .inl kf)), (mp, .inl (cA 0, 4, .inl pf)), (me, .inl (cA 0, 4, .inl ef)), (mtb, .inl (cA 0, 52, .inl tbf)), (mx, .inl (cA 0, 256, .inl xsf))] ∧ va_S A s.heap H locs) (μ := fun k z1 o1 t => K + P - k) ?_ 0 z none 0 ⟨hi_hk, hi_htt, hi_hot, hl9, hP, hD, hS⟩
  intro k z1 o1 t H locs ls hI9 ih_L0
  obtain ⟨hk, htt, hot, hl, hP, hD, hS⟩ := hI9
  refine lv_iload hx hb dX6_most_9 (lv_at hl 0 rfl) ?_
  refine lv_aload_n hx hb dX6_most_11 rfl (lv_at hl 3 rfl) ?_
  refine lv_iload_n hx hb dX6_most_12 rfl (lv_at hl 4 rfl) ?_
  have hPc := hP.sub (ws' := [(mo, .inr (6, [.ref mw, .int (nI cnt), .ref mk, .ref mp, .ref mz, .ref me, .ref mtb, .ref my, .ref mx, .ref mu, .ref mn, .ref mg, .int hf, .int fro, .ref mf, .int (nI fsz), .ref mi, .int (nI isz), .int z1, .ref mh, .ref mv, .int (nI rk), .long lf, .long lo, .ref ms])), (mk, .inl (cA 0, 4, .inl kf)), (mp, .inl (cA 0, 4, .inl pf))]) [0, 1, 2] rfl
  refine kq_csi (va_runV (As := [.int (nI j)]) (rest := [.int (nI k)]) ⟨hx, hb, hml, hown, hts⟩ (c_M_parts l dC dI cA mo mw mk mp mz me mtb my mx mu mn mg mf mi mh mv ms cnt hf fro fsz isz z1 rk lf lo kf pf j K P (by first | assumption | omega) (by first | assumption | omega) (by first | assumption | omega)) (cwV 1 hts (kg_V tb_325 tb_326 tb_327 tb_318 tb_324) rfl rfl rfl (by decide +kernel) ⟨Nat.le_of_ble_eq_true rfl, Nat.le_of_ble_eq_true rfl⟩) (kpv_ro hK hN hPc (ci := 6) (q0 := 0) rfl rfl rfl) rfl rfl hl.1 rfl (lv_room (Nat.le_of_ble_eq_true rfl)) dX6_most_13 ⟨Nat.le_of_ble_eq_true rfl, Nat.le_of_ble_eq_true rfl⟩) (fun r_1 hr_1 => ?_)
  refine kt_i (y := nI (K + P)) hr_1 ?_
  refine lv_icmp_ge (tgt := 111) hx hb dX6_most_16 (by decide) (fun c_2 => ?_) (fun c_2 => ?_)
  · have c_2 : (nI (K + P)) ≤ (nI k) := c_2
    have hk9 : (K + P) ≤ k := (ku_le (a := (K + P)) (b := k) (by omega) (by omega)).mp c_2
    have ek : k = K + P := by omega
    refine lv_iload hx hb dX6_most_111 (lv_at hl 1 rfl) ?_
    have hP9 := hP.sub (ws' := [(mo, .inr (6, [.ref mw, .int (nI cnt), .ref mk, .ref mp, .ref mz, .ref me, .ref mtb, .ref my, .ref mx, .ref mu, .ref mn, .ref mg, .int hf, .int fro, .ref mf, .int (nI fsz), .ref mi, .int (nI isz), .int z1, .ref mh, .ref mv, .int (nI rk), .long lf, .long lo, .ref ms])), (mk, .inl (cA 0, 4, .inl kf)), (mp, .inl (cA 0, 4, .inl pf)), (me, .inl (cA 0, 4, .inl ef)), (mtb, .inl (cA 0, 52, .inl tbf)), (mx, .inl (cA 0, 256, .inl xsf))]) [0, 1, 2, 3, 4, 5] rfl
    have hD9 := hD.sub (ws' := [(mo, .inr (6, [.ref mw, .int (nI cnt), .ref mk, .ref mp, .ref mz, .ref me, .ref mtb, .ref my, .ref mx, .ref mu, .ref mn, .ref mg, .int hf, .int fro, .ref mf, .int (nI fsz), .ref mi, .int (nI isz), .int z1, .ref mh, .ref mv, .int (nI rk), .long lf, .long lo, .ref ms])), (mk, .inl (cA 0, 4, .inl kf)), (mp, .inl (cA 0, 4, .inl pf)), (me, .inl (cA 0, 4, .inl ef)), (mtb, .inl (cA 0, 52, .inl tbf)), (mx, .inl (cA 0, 256, .inl xsf))]) [0, 1, 2, 3, 4, 5] (by decide) rfl
    exact W.iret (v := rs_fi o1) hx hb hr (fun t9 ht9 hW9 => ⟨⟨rs_fi o1, z1, rfl, (by rw [← ek, ← hot]), by rw [ht9]; exact hP9, hD9⟩, hS.F ht9⟩) hS.2.2 dX6_most_113
  · have c_2 : ¬ ((nI (K + P)) ≤ (nI k)) := c_2
    have hk9 : k < (K + P) := (ku_nle (a := (K + P)) (b := k) (by omega) (by omega)).mp c_2
    refine lv_iconst (v := 0) hx hb dX6_most_19 (by decide) ?_
    refine lv_istore (lv' := [(8, .int 0), (7, .int (nI k)), (5, .int (rs_fi o1)), (6, .int (nI t)), (0, .ref mo), (1, .int (nI j)), (2, .int (nI rc)), (3, .long op)]) hx hb dX6_most_20 hl (by decide) rfl (fun ls hl => ?_)
    refine lv_iconst (v := 0) hx hb dX6_most_22 (by decide) ?_
    refine lv_istore (lv' := [(9, .int 0), (8, .int 0), (7, .int (nI k)), (5, .int (rs_fi o1)), (6, .int (nI t)), (0, .ref mo), (1, .int (nI j)), (2, .int (nI rc)), (3, .long op)]) hx hb dX6_most_23 hl (by decide) rfl (fun ls hl => ?_)
    have hi_hq : 0 ≤ rc := (by omega)
    have hi_hnq : 0 ≤ 0 := (by omega)
    have hi_hn9 : 0 = rs_mc K P seed wN j xsf op k 0 := rfl
    have hi_hqb : 0 = 0 ∨ lg_cmp ((jv_lshr op (nI k)) &&& 1) 1 = 0 := (Or.inl rfl)
    have hl9 : lv_has ls 12 [(9, .int (nI 0)), (8, .int (nI 0)), (7, .int (nI k)), (5, .int (rs_fi o1)), (6, .int (nI t)), (0, .ref mo), (1, .int (nI j)), (2, .int (nI rc)), (3, .long op)] := lv_sub hl [0, 1, 2, 3, 4, 5, 6, 7, 8] rfl
    refine k_loop3 (I := fun (q : Nat) (z3 : Int32) (n : Nat) (H : Heap) (locs : List Loc) (ls : Array Slot) => (q ≤ rc) ∧ (n ≤ q) ∧ (n = rs_mc K P seed wN j xsf op k q) ∧ (q = 0 ∨ lg_cmp ((jv_lshr op (nI k)) &&& 1) 1 = 0) ∧ lv_has ls 12 [(9, .int (nI q)), (8, .int (nI n)), (7, .int (nI k)), (5, .int (rs_fi o1)), (6, .int (nI t)), (0, .ref mo), (1, .int (nI j)), (2, .int (nI rc)), (3, .long op)] ∧ va_P (dC, dI) vwCl [(mo, .inr (6, [.ref mw, .int (nI cnt), .ref mk, .ref mp, .ref mz, .ref me, .ref mtb, .ref my, .ref mx, .ref mu, .ref mn, .ref mg, .int hf, .int fro, .ref mf, .int (nI fsz), .ref mi, .int (nI isz), .int z3, .ref mh, .ref mv, .int (nI rk), .long lf, .long lo, .ref ms])), (mk, .inl (cA 0, 4, .inl kf)), (mp, .inl (cA 0, 4, .inl pf)), (me, .inl (cA 0, 4, .inl ef)), (mtb, .inl (cA 0, 52, .inl tbf)), (mx, .inl (cA 0, 256, .inl xsf))] H ∧ va_D A [(mo, .inr (6, [.ref mw, .int (nI cnt), .ref mk, .ref mp, .ref mz, .ref me, .ref mtb, .ref my, .ref mx, .ref mu, .ref mn, .ref mg, .int hf, .int fro, .ref mf, .int (nI fsz), .ref mi, .int (nI isz), .int z3, .ref mh, .ref mv, .int (nI rk), .long lf, .long lo, .ref ms])), (mk, .inl (cA 0, 4, .inl kf)), (mp, .inl (cA 0, 4, .inl pf)), (me, .inl (cA 0, 4, .inl ef)), (mtb, .inl (cA 0, 52, .inl tbf)), (mx, .inl (cA 0, 256, .inl xsf))] ∧ va_S A s.heap H locs) (μ := fun q z3 n => rc - q) ?_ 0 z1 0 ⟨hi_hq, hi_hnq, hi_hn9, hi_hqb, hl9, hP, hD, hS⟩
    intro q z3 n H locs ls hI9 ih_L1
    obtain ⟨hq, hnq, hn9, hqb, hl, hP, hD, hS⟩ := hI9
    refine lv_iload hx hb dX6_most_25 (lv_at hl 0 rfl) ?_
    refine lv_iload_n hx hb dX6_most_27 rfl (lv_at hl 7 rfl) ?_
    refine lv_icmp_ge (tgt := 90) hx hb dX6_most_28 (by decide) (fun c_3 => ?_) (fun c_3 => ?_)
    · have c_3 : (nI rc) ≤ (nI q) := c_3
      have hk9 : rc ≤ q := (ku_le (a := rc) (b := q) (by omega) (by omega)).mp c_3
      have hn8 : n = rs_mn K P seed wN j xsf op rc k := rs_mn_a hn9 (by omega) hqb
      refine lv_iload hx hb dX6_most_90 (lv_at hl 1 rfl) ?_
      refine lv_iload hx hb dX6_most_92 (lv_at hl 4 rfl) ?_
      refine lv_icmp_le (tgt := 105) hx hb dX6_most_94 (by decide) (fun c_4 => ?_) (fun c_4 => ?_)
      · have c_4 : (nI n) ≤ (nI t) := c_4
        have hk8 : n ≤ t := (nI_leI (by omega) (by omega)).mp c_4
        refine lv_iinc (v := nI (k + 1)) (lv' := [(7, .int (nI (k + 1))), (9, .int (nI q)), (8, .int (nI n)), (5, .int (rs_fi o1)), (6, .int (nI t)), (0, .ref mo), (1, .int (nI j)), (2, .int (nI rc)), (3, .long op)]) hx hb dX6_most_105 hl (k := 2) rfl (nI_succ _).symm (by decide) rfl (fun ls hl => ?_)
        refine lv_goto (tgt := 9) hx hb dX6_most_108 (by decide) ?_
        have hi_hk : (k + 1) ≤ K + P := (by omega)
        have hi_htt : t ≤ rc := (by first | omega | exact htt)
        have hi_hot : (o1, t) = rs_ms K P seed wN j xsf op rc (k + 1) := (by first | exact rs_ms_a hot hn8 hk8 | exact rs_ms_b hot hn8 hk8)
        have hl9 : lv_has ls 12 [(7, .int (nI (k + 1))), (5, .int (rs_fi o1)), (6, .int (nI t)), (0, .ref mo), (1, .int (nI j)), (2, .int (nI rc)), (3, .long op)] := lv_sub hl [0, 3, 4, 5, 6, 7, 8] rfl
        have hP9 : va_P (dC, dI) vwCl [(mo, .inr (6, [.ref mw, .int (nI cnt), .ref mk, .ref mp, .ref mz, .ref me, .ref mtb, .ref my, .ref mx, .ref mu, .ref mn, .ref mg, .int hf, .int fro, .ref mf, .int (nI fsz), .ref mi, .int (nI isz), .int z3, .ref mh, .ref mv, .int (nI rk), .long lf, .long lo, .ref ms])), (mk, .inl (cA 0, 4, .inl kf)), (mp, .inl (cA 0, 4, .inl pf)), (me, .inl (cA 0, 4, .inl ef)), (mtb, .inl (cA 0, 52, .inl tbf)), (mx, .inl (cA 0, 256, .inl xsf))] H := hP
        have hD9 : va_D A [(mo, .inr (6, [.ref mw, .int (nI cnt), .ref mk, .ref mp, .ref mz, .ref me, .ref mtb, .ref my, .ref mx, .ref mu, .ref mn, .ref mg, .int hf, .int fro, .ref mf, .int (nI fsz), .ref mi, .int (nI isz), .int z3, .ref mh, .ref mv, .int (nI rk), .long lf, .long lo, .ref ms])), (mk, .inl (cA 0, 4, .inl kf)), (mp, .inl (cA 0, 4, .inl pf)), (me, .inl (cA 0, 4, .inl ef)), (mtb, .inl (cA 0, 52, .inl tbf)), (mx, .inl (cA 0, 256, .inl xsf))] := hD
        exact ih_L0 (k + 1) z3 o1 t H locs ls ⟨hi_hk, hi_htt, hi_hot, hl9, hP9, hD9, hS⟩ (by show K + P - (k + 1) < K + P - k; omega)
      · have c_4 : ¬ ((nI n) ≤ (nI t)) := c_4
        have hk8 : ¬ n ≤ t := mt (nI_leI (a := n) (b := t) (by omega) (by omega)).mpr c_4
        refine lv_iload hx hb dX6_most_97 (lv_at hl 1 rfl) ?_
        refine lv_istore (lv' := [(6, .int (nI n)), (9, .int (nI q)), (8, .int (nI n)), (7, .int (nI k)), (5, .int (rs_fi o1)), (0, .ref mo), (1, .int (nI j)), (2, .int (nI rc)), (3, .long op)]) hx hb dX6_most_99 hl (by decide) rfl (fun ls hl => ?_)
        refine lv_iload hx hb dX6_most_101 (lv_at hl 3 rfl) ?_
        refine lv_istore (lv' := [(5, .int (nI k)), (6, .int (nI n)), (9, .int (nI q)), (8, .int (nI n)), (7, .int (nI k)), (0, .ref mo), (1, .int (nI j)), (2, .int (nI rc)), (3, .long op)]) hx hb dX6_most_103 hl (by decide) rfl (fun ls hl => ?_)
        refine lv_iinc (v := nI (k + 1)) (lv' := [(7, .int (nI (k + 1))), (5, .int (nI k)), (6, .int (nI n)), (9, .int (nI q)), (8, .int (nI n)), (0, .ref mo), (1, .int (nI j)), (2, .int (nI rc)), (3, .long op)]) hx hb dX6_most_105 hl (k := 4) rfl (nI_succ _).symm (by decide) rfl (fun ls hl => ?_)
        refine lv_goto (tgt := 9) hx hb dX6_most_108 (by decide) ?_
        have hi_hk : (k + 1) ≤ K + P := (by omega)
        have hi_htt : n ≤ rc := (by first | omega | exact htt)
        have hi_hot : ((some k), n) = rs_ms K P seed wN j xsf op rc (k + 1) := (by first | exact rs_ms_a hot hn8 hk8 | exact rs_ms_b hot hn8 hk8)
        have hl9 : lv_has ls 12 [(7, .int (nI (k + 1))), (5, .int (rs_fi (some k))), (6, .int (nI n)), (0, .ref mo), (1, .int (nI j)), (2, .int (nI rc)), (3, .long op)] := lv_sub hl [0, 1, 2, 5, 6, 7, 8] rfl
        have hP9 : va_P (dC, dI) vwCl [(mo, .inr (6, [.ref mw, .int (nI cnt), .ref mk, .ref mp, .ref mz, .ref me, .ref mtb, .ref my, .ref mx, .ref mu, .ref mn, .ref mg, .int hf, .int fro, .ref mf, .int (nI fsz), .ref mi, .int (nI isz), .int z3, .ref mh, .ref mv, .int (nI rk), .long lf, .long lo, .ref ms])), (mk, .inl (cA 0, 4, .inl kf)), (mp, .inl (cA 0, 4, .inl pf)), (me, .inl (cA 0, 4, .inl ef)), (mtb, .inl (cA 0, 52, .inl tbf)), (mx, .inl (cA 0, 256, .inl xsf))] H := hP
        have hD9 : va_D A [(mo, .inr (6, [.ref mw, .int (nI cnt), .ref mk, .ref mp, .ref mz, .ref me, .ref mtb, .ref my, .ref mx, .ref mu, .ref mn, .ref mg, .int hf, .int fro, .ref mf, .int (nI fsz), .ref mi, .int (nI isz), .int z3, .ref mh, .ref mv, .int (nI rk), .long lf, .long lo, .ref ms])), (mk, .inl (cA 0, 4, .inl kf)), (mp, .inl (cA 0, 4, .inl pf)), (me, .inl (cA 0, 4, .inl ef)), (mtb, .inl (cA 0, 52, .inl tbf)), (mx, .inl (cA 0, 256, .inl xsf))] := hD
        exact ih_L0 (k + 1) z3 (some k) n H locs ls ⟨hi_hk, hi_htt, hi_hot, hl9, hP9, hD9, hS⟩ (by show K + P - (k + 1) < K + P - k; omega)
    · have c_3 : ¬ ((nI rc) ≤ (nI q)) := c_3
      have hk9 : q < rc := (ku_nle (a := rc) (b := q) (by omega) (by omega)).mp c_3
      refine lv_lload_n hx hb dX6_most_31 rfl (lv_at hl 8 rfl) ?_
      refine lv_iload hx hb dX6_most_32 (lv_at hl 2 rfl) ?_
      refine lv_lshr (v := jv_lshr op (nI k)) hx hb dX6_most_34 rfl ?_
      refine lv_lconst (v := 1) hx hb dX6_most_35 (by decide) ?_
      refine lv_land hx hb dX6_most_36 ?_
      refine lv_lconst (v := 1) hx hb dX6_most_37 (by decide) ?_
      refine W.lcmp hx hb dX6_most_38 ?_
      refine lv_if_ne (tgt := 90) hx hb dX6_most_39 (by decide) (fun c_5 => ?_) (fun c_5 => ?_)
      · have c_5 : ¬ ((lg_cmp ((jv_lshr op (nI k)) &&& 1) 1) = 0) := c_5
        have hn8 : n = rs_mn K P seed wN j xsf op rc k := rs_mn_b hn9 hqb c_5
        refine lv_iload hx hb dX6_most_90 (lv_at hl 1 rfl) ?_
        refine lv_iload hx hb dX6_most_92 (lv_at hl 4 rfl) ?_
        refine lv_icmp_le (tgt := 105) hx hb dX6_most_94 (by decide) (fun c_6 => ?_) (fun c_6 => ?_)
        · have c_6 : (nI n) ≤ (nI t) := c_6
          have hk8 : n ≤ t := (nI_leI (by omega) (by omega)).mp c_6
          refine lv_iinc (v := nI (k + 1)) (lv' := [(7, .int (nI (k + 1))), (9, .int (nI q)), (8, .int (nI n)), (5, .int (rs_fi o1)), (6, .int (nI t)), (0, .ref mo), (1, .int (nI j)), (2, .int (nI rc)), (3, .long op)]) hx hb dX6_most_105 hl (k := 2) rfl (nI_succ _).symm (by decide) rfl (fun ls hl => ?_)
          refine lv_goto (tgt := 9) hx hb dX6_most_108 (by decide) ?_
          have hi_hk : (k + 1) ≤ K + P := (by omega)
          have hi_htt : t ≤ rc := (by first | omega | exact htt)
          have hi_hot : (o1, t) = rs_ms K P seed wN j xsf op rc (k + 1) := (by first | exact rs_ms_a hot hn8 hk8 | exact rs_ms_b hot hn8 hk8)
          have hl9 : lv_has ls 12 [(7, .int (nI (k + 1))), (5, .int (rs_fi o1)), (6, .int (nI t)), (0, .ref mo), (1, .int (nI j)), (2, .int (nI rc)), (3, .long op)] := lv_sub hl [0, 3, 4, 5, 6, 7, 8] rfl
          have hP9 : va_P (dC, dI) vwCl [(mo, .inr (6, [.ref mw, .int (nI cnt), .ref mk, .ref mp, .ref mz, .ref me, .ref mtb, .ref my, .ref mx, .ref mu, .ref mn, .ref mg, .int hf, .int fro, .ref mf, .int (nI fsz), .ref mi, .int (nI isz), .int z3, .ref mh, .ref mv, .int (nI rk), .long lf, .long lo, .ref ms])), (mk, .inl (cA 0, 4, .inl kf)), (mp, .inl (cA 0, 4, .inl pf)), (me, .inl (cA 0, 4, .inl ef)), (mtb, .inl (cA 0, 52, .inl tbf)), (mx, .inl (cA 0, 256, .inl xsf))] H := hP
          have hD9 : va_D A [(mo, .inr (6, [.ref mw, .int (nI cnt), .ref mk, .ref mp, .ref mz, .ref me, .ref mtb, .ref my, .ref mx, .ref mu, .ref mn, .ref mg, .int hf, .int fro, .ref mf, .int (nI fsz), .ref mi, .int (nI isz), .int z3, .ref mh, .ref mv, .int (nI rk), .long lf, .long lo, .ref ms])), (mk, .inl (cA 0, 4, .inl kf)), (mp, .inl (cA 0, 4, .inl pf)), (me, .inl (cA 0, 4, .inl ef)), (mtb, .inl (cA 0, 52, .inl tbf)), (mx, .inl (cA 0, 256, .inl xsf))] := hD
          exact ih_L0 (k + 1) z3 o1 t H locs ls ⟨hi_hk, hi_htt, hi_hot, hl9, hP9, hD9, hS⟩ (by show K + P - (k + 1) < K + P - k; omega)
        · have c_6 : ¬ ((nI n) ≤ (nI t)) := c_6
          have hk8 : ¬ n ≤ t := mt (nI_leI (a := n) (b := t) (by omega) (by omega)).mpr c_6
          refine lv_iload hx hb dX6_most_97 (lv_at hl 1 rfl) ?_
          refine lv_istore (lv' := [(6, .int (nI n)), (9, .int (nI q)), (8, .int (nI n)), (7, .int (nI k)), (5, .int (rs_fi o1)), (0, .ref mo), (1, .int (nI j)), (2, .int (nI rc)), (3, .long op)]) hx hb dX6_most_99 hl (by decide) rfl (fun ls hl => ?_)
          refine lv_iload hx hb dX6_most_101 (lv_at hl 3 rfl) ?_
          refine lv_istore (lv' := [(5, .int (nI k)), (6, .int (nI n)), (9, .int (nI q)), (8, .int (nI n)), (7, .int (nI k)), (0, .ref mo), (1, .int (nI j)), (2, .int (nI rc)), (3, .long op)]) hx hb dX6_most_103 hl (by decide) rfl (fun ls hl => ?_)
          refine lv_iinc (v := nI (k + 1)) (lv' := [(7, .int (nI (k + 1))), (5, .int (nI k)), (6, .int (nI n)), (9, .int (nI q)), (8, .int (nI n)), (0, .ref mo), (1, .int (nI j)), (2, .int (nI rc)), (3, .long op)]) hx hb dX6_most_105 hl (k := 4) rfl (nI_succ _).symm (by decide) rfl (fun ls hl => ?_)
          refine lv_goto (tgt := 9) hx hb dX6_most_108 (by decide) ?_
          have hi_hk : (k + 1) ≤ K + P := (by omega)
          have hi_htt : n ≤ rc := (by first | omega | exact htt)
          have hi_hot : ((some k), n) = rs_ms K P seed wN j xsf op rc (k + 1) := (by first | exact rs_ms_a hot hn8 hk8 | exact rs_ms_b hot hn8 hk8)
          have hl9 : lv_has ls 12 [(7, .int (nI (k + 1))), (5, .int (rs_fi (some k))), (6, .int (nI n)), (0, .ref mo), (1, .int (nI j)), (2, .int (nI rc)), (3, .long op)] := lv_sub hl [0, 1, 2, 5, 6, 7, 8] rfl
          have hP9 : va_P (dC, dI) vwCl [(mo, .inr (6, [.ref mw, .int (nI cnt), .ref mk, .ref mp, .ref mz, .ref me, .ref mtb, .ref my, .ref mx, .ref mu, .ref mn, .ref mg, .int hf, .int fro, .ref mf, .int (nI fsz), .ref mi, .int (nI isz), .int z3, .ref mh, .ref mv, .int (nI rk), .long lf, .long lo, .ref ms])), (mk, .inl (cA 0, 4, .inl kf)), (mp, .inl (cA 0, 4, .inl pf)), (me, .inl (cA 0, 4, .inl ef)), (mtb, .inl (cA 0, 52, .inl tbf)), (mx, .inl (cA 0, 256, .inl xsf))] H := hP
          have hD9 : va_D A [(mo, .inr (6, [.ref mw, .int (nI cnt), .ref mk, .ref mp, .ref mz, .ref me, .ref mtb, .ref my, .ref mx, .ref mu, .ref mn, .ref mg, .int hf, .int fro, .ref mf, .int (nI fsz), .ref mi, .int (nI isz), .int z3, .ref mh, .ref mv, .int (nI rk), .long lf, .long lo, .ref ms])), (mk, .inl (cA 0, 4, .inl kf)), (mp, .inl (cA 0, 4, .inl pf)), (me, .inl (cA 0, 4, .inl ef)), (mtb, .inl (cA 0, 52, .inl tbf)), (mx, .inl (cA 0, 256, .inl xsf))] := hD
          exact ih_L0 (k + 1) z3 (some k) n H locs ls ⟨hi_hk, hi_htt, hi_hot, hl9, hP9, hD9, hS⟩ (by show K + P - (k + 1) < K + P - k; omega)
      · have c_5 : (lg_cmp ((jv_lshr op (nI k)) &&& 1) 1) = 0 := c_5
        have hbt := c_5
        refine lv_aload_n hx hb dX6_most_42 rfl (lv_at hl 5 rfl) ?_
        refine lv_iload_n hx hb dX6_most_43 rfl (lv_at hl 6 rfl) ?_
        refine lv_iload hx hb dX6_most_44 (lv_at hl 0 rfl) ?_
        have hPc := hP.sub (ws' := [(mo, .inr (6, [.ref mw, .int (nI cnt), .ref mk, .ref mp, .ref mz, .ref me, .ref mtb, .ref my, .ref mx, .ref mu, .ref mn, .ref mg, .int hf, .int fro, .ref mf, .int (nI fsz), .ref mi, .int (nI isz), .int z3, .ref mh, .ref mv, .int (nI rk), .long lf, .long lo, .ref ms])), (mk, .inl (cA 0, 4, .inl kf)), (mp, .inl (cA 0, 4, .inl pf)), (me, .inl (cA 0, 4, .inl ef)), (mtb, .inl (cA 0, 52, .inl tbf)), (mx, .inl (cA 0, 256, .inl xsf))]) [0, 1, 2, 3, 4, 5] rfl
        have hDc := hD.sub (ws' := [(mo, .inr (6, [.ref mw, .int (nI cnt), .ref mk, .ref mp, .ref mz, .ref me, .ref mtb, .ref my, .ref mx, .ref mu, .ref mn, .ref mg, .int hf, .int fro, .ref mf, .int (nI fsz), .ref mi, .int (nI isz), .int z3, .ref mh, .ref mv, .int (nI rk), .long lf, .long lo, .ref ms])), (mk, .inl (cA 0, 4, .inl kf)), (mp, .inl (cA 0, 4, .inl pf)), (me, .inl (cA 0, 4, .inl ef)), (mtb, .inl (cA 0, 52, .inl tbf)), (mx, .inl (cA 0, 256, .inl xsf))]) [0, 1, 2, 3, 4, 5] (by decide) rfl
        have hFc := va_free (wc := [(mo, .inr (6, [.ref mw, .int (nI cnt), .ref mk, .ref mp, .ref mz, .ref me, .ref mtb, .ref my, .ref mx, .ref mu, .ref mn, .ref mg, .int hf, .int fro, .ref mf, .int (nI fsz), .ref mi, .int (nI isz), .int z3, .ref mh, .ref mv, .int (nI rk), .long lf, .long lo, .ref ms])), (mk, .inl (cA 0, 4, .inl kf)), (mp, .inl (cA 0, 4, .inl pf)), (me, .inl (cA 0, 4, .inl ef)), (mtb, .inl (cA 0, 52, .inl tbf)), (mx, .inl (cA 0, 256, .inl xsf))]) hD hS hA [0, 1, 2, 3, 4, 5] rfl
        refine va_calll (va_runV (As := [.int (nI j), .int (nI q)]) (rest := []) ⟨hx, hb, hml, hown, hts⟩ (c_M_rowAt l dC dI cA H.size mo mw mk mp mz me mtb my mx mu mn mg mf mi mh mv ms cnt hf fro fsz isz z3 rk lf lo kf pf ef tbf xsf j K P seed wN q (by first | assumption | omega) (by first | assumption | omega) (by first | assumption | omega) (by first | assumption | omega) (by first | assumption | omega) (by first | assumption | omega) (by first | assumption | omega) (by first | assumption | omega) (by first | assumption | omega) (by first | assumption | omega) (by first | assumption | omega)) (cwV 2 hts (kg_V tb_376 tb_377 tb_378 tb_318 tb_375) rfl rfl rfl (by decide +kernel) ⟨Nat.le_of_ble_eq_true rfl, Nat.le_of_ble_eq_true rfl⟩) (kpv_rw hK hN hPc hDc (ci := 6) (q0 := 0) rfl rfl rfl) rfl rfl hl.1 rfl (lv_room (Nat.le_of_ble_eq_true rfl)) dX6_most_46 ⟨Nat.le_of_ble_eq_true rfl, Nat.le_of_ble_eq_true rfl⟩) hS (fun q _ h => hFc q h) hFc (fun r_7 u9 t9 H1 locs ht9 hvm9 hr_7 hB hz1 hk1 hS => ?_)
        obtain ⟨z2_8, rfl⟩ : ∃ z, z = u9 := ⟨_, rfl⟩
        obtain ⟨hP1, hD1⟩ := hB
        rw [ht9] at hP1
        obtain ⟨hP, hD⟩ := va_join (wr := []) (w1 := [(mo, .inr (6, [.ref mw, .int (nI cnt), .ref mk, .ref mp, .ref mz, .ref me, .ref mtb, .ref my, .ref mx, .ref mu, .ref mn, .ref mg, .int hf, .int fro, .ref mf, .int (nI fsz), .ref mi, .int (nI isz), .int z2_8, .ref mh, .ref mv, .int (nI rk), .long lf, .long lo, .ref ms])), (mk, .inl (cA 0, 4, .inl kf)), (mp, .inl (cA 0, 4, .inl pf)), (me, .inl (cA 0, 4, .inl ef)), (mtb, .inl (cA 0, 52, .inl tbf)), (mx, .inl (cA 0, 256, .inl xsf))]) hP hD [0, 1, 2, 3, 4, 5] [] rfl rfl (by decide) (by decide) hk1 hFc hP1 hD1
        generalize H1 = H at hP hS ⊢
        have hP : va_P (dC, dI) vwCl [(mo, .inr (6, [.ref mw, .int (nI cnt), .ref mk, .ref mp, .ref mz, .ref me, .ref mtb, .ref my, .ref mx, .ref mu, .ref mn, .ref mg, .int hf, .int fro, .ref mf, .int (nI fsz), .ref mi, .int (nI isz), .int z2_8, .ref mh, .ref mv, .int (nI rk), .long lf, .long lo, .ref ms])), (mk, .inl (cA 0, 4, .inl kf)), (mp, .inl (cA 0, 4, .inl pf)), (me, .inl (cA 0, 4, .inl ef)), (mtb, .inl (cA 0, 52, .inl tbf)), (mx, .inl (cA 0, 256, .inl xsf))] H := hP
        have hD : va_D A [(mo, .inr (6, [.ref mw, .int (nI cnt), .ref mk, .ref mp, .ref mz, .ref me, .ref mtb, .ref my, .ref mx, .ref mu, .ref mn, .ref mg, .int hf, .int fro, .ref mf, .int (nI fsz), .ref mi, .int (nI isz), .int z2_8, .ref mh, .ref mv, .int (nI rk), .long lf, .long lo, .ref ms])), (mk, .inl (cA 0, 4, .inl kf)), (mp, .inl (cA 0, 4, .inl pf)), (me, .inl (cA 0, 4, .inl ef)), (mtb, .inl (cA 0, 52, .inl tbf)), (mx, .inl (cA 0, 256, .inl xsf))] := hD
        refine kt_l (y := rs_rowat K P seed wN j xsf q) hr_7 ?_
        refine lv_lload_n hx hb dX6_most_49 rfl (lv_at hl 8 rfl) ?_
        refine lv_land hx hb dX6_most_50 ?_
        refine lv_lstore (lv' := [(10, .long ((rs_rowat K P seed wN j xsf q) &&& op)), (9, .int (nI q)), (8, .int (nI n)), (7, .int (nI k)), (5, .int (rs_fi o1)), (6, .int (nI t)), (0, .ref mo), (1, .int (nI j)), (2, .int (nI rc)), (3, .long op)]) hx hb dX6_most_51 hl (by decide) rfl (fun ls hl => ?_)
        refine lv_iload hx hb dX6_most_53 (lv_at hl 2 rfl) ?_
        refine lv_lload hx hb dX6_most_55 (lv_at hl 0 rfl) ?_
        have hPc := hP.sub (ws' := []) [] rfl
        refine kq_csi (va_runS (As := [.long ((rs_rowat K P seed wN j xsf q) &&& op)]) (rest := [.int (nI n)]) ⟨hx, hb, hml, hown, hts⟩ (c_M_count l dC dI cA ((rs_rowat K P seed wN j xsf q) &&& op)) (va_cwS 1 hts (kg_S tb_418 tb_419 tb_318 tb_417) rfl rfl rfl (by decide +kernel) ⟨Nat.le_of_ble_eq_true rfl, Nat.le_of_ble_eq_true rfl⟩) (kps_ro hK hN hPc) rfl rfl hl.1 rfl (lv_room (Nat.le_of_ble_eq_true rfl)) dX6_most_57 ⟨Nat.le_of_ble_eq_true rfl, Nat.le_of_ble_eq_true rfl⟩) (fun r_9 hr_9 => ?_)
        refine kt_i (y := nI (rs_cnt ((rs_rowat K P seed wN j xsf q) &&& op) 40)) hr_9 ?_
        refine lv_iconst (v := 1) hx hb dX6_most_60 (by decide) ?_
        refine lv_icmp_le (tgt := 80) hx hb dX6_most_61 (by decide) (fun c_10 => ?_) (fun c_10 => ?_)
        · have c_10 : (nI (rs_cnt ((rs_rowat K P seed wN j xsf q) &&& op) 40)) ≤ 1 := c_10
          refine lv_iconst (v := 0) hx hb dX6_most_80 (by decide) ?_
          refine lv_iadd hx hb dX6_most_81 ?_
          refine kt_i (y := nI (n + 0)) (nI_add n 0) ?_
          refine lv_istore (lv' := [(8, .int (nI (n + 0))), (10, .long ((rs_rowat K P seed wN j xsf q) &&& op)), (9, .int (nI q)), (7, .int (nI k)), (5, .int (rs_fi o1)), (6, .int (nI t)), (0, .ref mo), (1, .int (nI j)), (2, .int (nI rc)), (3, .long op)]) hx hb dX6_most_82 hl (by decide) rfl (fun ls hl => ?_)
          refine lv_iinc (v := nI (q + 1)) (lv' := [(9, .int (nI (q + 1))), (8, .int (nI (n + 0))), (10, .long ((rs_rowat K P seed wN j xsf q) &&& op)), (7, .int (nI k)), (5, .int (rs_fi o1)), (6, .int (nI t)), (0, .ref mo), (1, .int (nI j)), (2, .int (nI rc)), (3, .long op)]) hx hb dX6_most_84 hl (k := 2) rfl (nI_succ _).symm (by decide) rfl (fun ls hl => ?_)
          refine lv_goto (tgt := 25) hx hb dX6_most_87 (by decide) ?_
          have hi_hq : (q + 1) ≤ rc := (by omega)
          have hi_hnq : (n + 0) ≤ (q + 1) := (by omega)
          have hi_hn9 : (n + 0) = rs_mc K P seed wN j xsf op k (q + 1) := (by subst hn9; exact (if_pos c_10).symm)
          have hi_hqb : (q + 1) = 0 ∨ lg_cmp ((jv_lshr op (nI k)) &&& 1) 1 = 0 := (Or.inr hbt)
          have hl9 : lv_has ls 12 [(9, .int (nI (q + 1))), (8, .int (nI (n + 0))), (7, .int (nI k)), (5, .int (rs_fi o1)), (6, .int (nI t)), (0, .ref mo), (1, .int (nI j)), (2, .int (nI rc)), (3, .long op)] := lv_sub hl [0, 1, 3, 4, 5, 6, 7, 8, 9] rfl
          have hP9 : va_P (dC, dI) vwCl [(mo, .inr (6, [.ref mw, .int (nI cnt), .ref mk, .ref mp, .ref mz, .ref me, .ref mtb, .ref my, .ref mx, .ref mu, .ref mn, .ref mg, .int hf, .int fro, .ref mf, .int (nI fsz), .ref mi, .int (nI isz), .int z2_8, .ref mh, .ref mv, .int (nI rk), .long lf, .long lo, .ref ms])), (mk, .inl (cA 0, 4, .inl kf)), (mp, .inl (cA 0, 4, .inl pf)), (me, .inl (cA 0, 4, .inl ef)), (mtb, .inl (cA 0, 52, .inl tbf)), (mx, .inl (cA 0, 256, .inl xsf))] H := hP
          have hD9 : va_D A [(mo, .inr (6, [.ref mw, .int (nI cnt), .ref mk, .ref mp, .ref mz, .ref me, .ref mtb, .ref my, .ref mx, .ref mu, .ref mn, .ref mg, .int hf, .int fro, .ref mf, .int (nI fsz), .ref mi, .int (nI isz), .int z2_8, .ref mh, .ref mv, .int (nI rk), .long lf, .long lo, .ref ms])), (mk, .inl (cA 0, 4, .inl kf)), (mp, .inl (cA 0, 4, .inl pf)), (me, .inl (cA 0, 4, .inl ef)), (mtb, .inl (cA 0, 52, .inl tbf)), (mx, .inl (cA 0, 256, .inl xsf))] := hD
          exact ih_L1 (q + 1) z2_8 (n + 0) H locs ls ⟨hi_hq, hi_hnq, hi_hn9, hi_hqb, hl9, hP9, hD9, hS⟩ (by show rc - (q + 1) < rc - q; omega)
        · have c_10 : ¬ ((nI (rs_cnt ((rs_rowat K P seed wN j xsf q) &&& op) 40)) ≤ 1) := c_10
          refine lv_lload hx hb dX6_most_64 (lv_at hl 0 rfl) ?_
          refine lv_iload hx hb dX6_most_66 (lv_at hl 3 rfl) ?_
          refine lv_lshr (v := jv_lshr ((rs_rowat K P seed wN j xsf q) &&& op) (nI k)) hx hb dX6_most_68 rfl ?_
          refine lv_lconst (v := 1) hx hb dX6_most_69 (by decide) ?_
          refine lv_land hx hb dX6_most_70 ?_
          refine lv_lconst (v := 1) hx hb dX6_most_71 (by decide) ?_
          refine W.lcmp hx hb dX6_most_72 ?_
          refine lv_if_ne (tgt := 80) hx hb dX6_most_73 (by decide) (fun c_11 => ?_) (fun c_11 => ?_)
          · have c_11 : ¬ ((lg_cmp ((jv_lshr ((rs_rowat K P seed wN j xsf q) &&& op) (nI k)) &&& 1) 1) = 0) := c_11
            refine lv_iconst (v := 0) hx hb dX6_most_80 (by decide) ?_
            refine lv_iadd hx hb dX6_most_81 ?_
            refine kt_i (y := nI (n + 0)) (nI_add n 0) ?_
            refine lv_istore (lv' := [(8, .int (nI (n + 0))), (10, .long ((rs_rowat K P seed wN j xsf q) &&& op)), (9, .int (nI q)), (7, .int (nI k)), (5, .int (rs_fi o1)), (6, .int (nI t)), (0, .ref mo), (1, .int (nI j)), (2, .int (nI rc)), (3, .long op)]) hx hb dX6_most_82 hl (by decide) rfl (fun ls hl => ?_)
            refine lv_iinc (v := nI (q + 1)) (lv' := [(9, .int (nI (q + 1))), (8, .int (nI (n + 0))), (10, .long ((rs_rowat K P seed wN j xsf q) &&& op)), (7, .int (nI k)), (5, .int (rs_fi o1)), (6, .int (nI t)), (0, .ref mo), (1, .int (nI j)), (2, .int (nI rc)), (3, .long op)]) hx hb dX6_most_84 hl (k := 2) rfl (nI_succ _).symm (by decide) rfl (fun ls hl => ?_)
            refine lv_goto (tgt := 25) hx hb dX6_most_87 (by decide) ?_
            have hi_hq : (q + 1) ≤ rc := (by omega)
            have hi_hnq : (n + 0) ≤ (q + 1) := (by omega)
            have hi_hn9 : (n + 0) = rs_mc K P seed wN j xsf op k (q + 1) := (by subst hn9; exact ((if_neg c_10).trans (if_neg c_11)).symm)
            have hi_hqb : (q + 1) = 0 ∨ lg_cmp ((jv_lshr op (nI k)) &&& 1) 1 = 0 := (Or.inr hbt)
            have hl9 : lv_has ls 12 [(9, .int (nI (q + 1))), (8, .int (nI (n + 0))), (7, .int (nI k)), (5, .int (rs_fi o1)), (6, .int (nI t)), (0, .ref mo), (1, .int (nI j)), (2, .int (nI rc)), (3, .long op)] := lv_sub hl [0, 1, 3, 4, 5, 6, 7, 8, 9] rfl
            have hP9 : va_P (dC, dI) vwCl [(mo, .inr (6, [.ref mw, .int (nI cnt), .ref mk, .ref mp, .ref mz, .ref me, .ref mtb, .ref my, .ref mx, .ref mu, .ref mn, .ref mg, .int hf, .int fro, .ref mf, .int (nI fsz), .ref mi, .int (nI isz), .int z2_8, .ref mh, .ref mv, .int (nI rk), .long lf, .long lo, .ref ms])), (mk, .inl (cA 0, 4, .inl kf)), (mp, .inl (cA 0, 4, .inl pf)), (me, .inl (cA 0, 4, .inl ef)), (mtb, .inl (cA 0, 52, .inl tbf)), (mx, .inl (cA 0, 256, .inl xsf))] H := hP
            have hD9 : va_D A [(mo, .inr (6, [.ref mw, .int (nI cnt), .ref mk, .ref mp, .ref mz, .ref me, .ref mtb, .ref my, .ref mx, .ref mu, .ref mn, .ref mg, .int hf, .int fro, .ref mf, .int (nI fsz), .ref mi, .int (nI isz), .int z2_8, .ref mh, .ref mv, .int (nI rk), .long lf, .long lo, .ref ms])), (mk, .inl (cA 0, 4, .inl kf)), (mp, .inl (cA 0, 4, .inl pf)), (me, .inl (cA 0, 4, .inl ef)), (mtb, .inl (cA 0, 52, .inl tbf)), (mx, .inl (cA 0, 256, .inl xsf))] := hD
            exact ih_L1 (q + 1) z2_8 (n + 0) H locs ls ⟨hi_hq, hi_hnq, hi_hn9, hi_hqb, hl9, hP9, hD9, hS⟩ (by show rc - (q + 1) < rc - q; omega)
          · have c_11 : (lg_cmp ((jv_lshr ((rs_rowat K P seed wN j xsf q) &&& op) (nI k)) &&& 1) 1) = 0 := c_11
            refine lv_iconst (v := 1) hx hb dX6_most_76 (by decide) ?_
            refine lv_goto (tgt := 81) hx hb dX6_most_77 (by decide) ?_
            refine lv_iadd hx hb dX6_most_81 ?_
            refine kt_i (y := nI (n + 1)) (nI_add n 1) ?_
            refine lv_istore (lv' := [(8, .int (nI (n + 1))), (10, .long ((rs_rowat K P seed wN j xsf q) &&& op)), (9, .int (nI q)), (7, .int (nI k)), (5, .int (rs_fi o1)), (6, .int (nI t)), (0, .ref mo), (1, .int (nI j)), (2, .int (nI rc)), (3, .long op)]) hx hb dX6_most_82 hl (by decide) rfl (fun ls hl => ?_)
            refine lv_iinc (v := nI (q + 1)) (lv' := [(9, .int (nI (q + 1))), (8, .int (nI (n + 1))), (10, .long ((rs_rowat K P seed wN j xsf q) &&& op)), (7, .int (nI k)), (5, .int (rs_fi o1)), (6, .int (nI t)), (0, .ref mo), (1, .int (nI j)), (2, .int (nI rc)), (3, .long op)]) hx hb dX6_most_84 hl (k := 2) rfl (nI_succ _).symm (by decide) rfl (fun ls hl => ?_)
            refine lv_goto (tgt := 25) hx hb dX6_most_87 (by decide) ?_
            have hi_hq : (q + 1) ≤ rc := (by omega)
            have hi_hnq : (n + 1) ≤ (q + 1) := (by omega)
            have hi_hn9 : (n + 1) = rs_mc K P seed wN j xsf op k (q + 1) := (by subst hn9; exact ((if_neg c_10).trans (if_pos c_11)).symm)
            have hi_hqb : (q + 1) = 0 ∨ lg_cmp ((jv_lshr op (nI k)) &&& 1) 1 = 0 := (Or.inr hbt)
            have hl9 : lv_has ls 12 [(9, .int (nI (q + 1))), (8, .int (nI (n + 1))), (7, .int (nI k)), (5, .int (rs_fi o1)), (6, .int (nI t)), (0, .ref mo), (1, .int (nI j)), (2, .int (nI rc)), (3, .long op)] := lv_sub hl [0, 1, 3, 4, 5, 6, 7, 8, 9] rfl
            have hP9 : va_P (dC, dI) vwCl [(mo, .inr (6, [.ref mw, .int (nI cnt), .ref mk, .ref mp, .ref mz, .ref me, .ref mtb, .ref my, .ref mx, .ref mu, .ref mn, .ref mg, .int hf, .int fro, .ref mf, .int (nI fsz), .ref mi, .int (nI isz), .int z2_8, .ref mh, .ref mv, .int (nI rk), .long lf, .long lo, .ref ms])), (mk, .inl (cA 0, 4, .inl kf)), (mp, .inl (cA 0, 4, .inl pf)), (me, .inl (cA 0, 4, .inl ef)), (mtb, .inl (cA 0, 52, .inl tbf)), (mx, .inl (cA 0, 256, .inl xsf))] H := hP
            have hD9 : va_D A [(mo, .inr (6, [.ref mw, .int (nI cnt), .ref mk, .ref mp, .ref mz, .ref me, .ref mtb, .ref my, .ref mx, .ref mu, .ref mn, .ref mg, .int hf, .int fro, .ref mf, .int (nI fsz), .ref mi, .int (nI isz), .int z2_8, .ref mh, .ref mv, .int (nI rk), .long lf, .long lo, .ref ms])), (mk, .inl (cA 0, 4, .inl kf)), (mp, .inl (cA 0, 4, .inl pf)), (me, .inl (cA 0, 4, .inl ef)), (mtb, .inl (cA 0, 52, .inl tbf)), (mx, .inl (cA 0, 256, .inl xsf))] := hD
            exact ih_L1 (q + 1) z2_8 (n + 1) H locs ls ⟨hi_hq, hi_hnq, hi_hn9, hi_hqb, hl9, hP9, hD9, hS⟩ (by show rc - (q + 1) < rc - q; omega)
set_option maxHeartbeats 4000000 in
set_option maxRecDepth 100000 in
theorem c_M_peel (l : Launch) (dC : Nat → ClassId) (dI : Nat → Nat → Nat) (cA : Nat → ClassId) (sz : Nat) (mo : Nat) (mw : Nat) (mk : Nat) (mp : Nat) (mz : Nat) (me : Nat) (mtb : Nat) (my : Nat) (mx : Nat) (mu : Nat) (mn : Nat) (mg : Nat) (mf : Nat) (mi : Nat) (mh : Nat) (mv : Nat) (ms : Nat) (cnt : Nat) (hf : Int32) (fro : Int32) (fsz : Nat) (isz : Nat) (z : Int32) (rk : Nat) (lf : Int64) (lo : Int64) (kf : Nat → Int32) (pf : Nat → Int32) (ef : Nat → Int32) (tbf : Nat → Int32) (xsf : Nat → Int32) (tkf : Nat → Int32) (sts : Nat → Int32) (j : Nat) (K : Nat) (P : Nat) (tk : Nat) (seed : Int32) (wN : Nat → Nat) (hj4 : j < 4) (hkf : kf j = nI K) (hpf : pf j = nI P) (hef : ef j = seed) (hK32 : K ≤ 32) (hP8 : P ≤ 8) (hK1 : 1 ≤ K) (hw : ∀ d, d < 13 → tbf (13 * j + d) = nI (wN d)) (hwb : ∀ d, d < 13 → wN d ≤ 100) (htot : 0 < rs_ws wN 12) (htf : tkf j = nI tk) (htk : tk ≤ 64) : Met l yX6_peel (kw_X6_peel) ({ frames := 4, cells := 0, slots := 0, locals := 105 }) (va_Pc [.ref mo, .int (nI j)] (fun U => kRW dC dI cA [(mo, .inr (6, [.ref mw, .int (nI cnt), .ref mk, .ref mp, .ref mz, .ref me, .ref mtb, .ref my, .ref mx, .ref mu, .ref mn, .ref mg, .int hf, .int fro, .ref mf, .int (nI fsz), .ref mi, .int (nI isz), .int z, .ref mh, .ref mv, .int (nI rk), .long lf, .long lo, .ref ms])), (mk, .inl (cA 0, 4, .inl kf)), (mp, .inl (cA 0, 4, .inl pf)), (me, .inl (cA 0, 4, .inl ef)), (mtb, .inl (cA 0, 52, .inl tbf)), (mx, .inl (cA 0, 256, .inl xsf)), (mn, .inl (cA 0, 4, .inl tkf)), (ms, .inl (cA 0, 40, .inl sts))] sz U)) (va_Qv (fun (u : Int32) => True) (fun (u : Int32) t => kB dC dI (va_A [(mo, .inr (6, [.ref mw, .int (nI cnt), .ref mk, .ref mp, .ref mz, .ref me, .ref mtb, .ref my, .ref mx, .ref mu, .ref mn, .ref mg, .int hf, .int fro, .ref mf, .int (nI fsz), .ref mi, .int (nI isz), .int z, .ref mh, .ref mv, .int (nI rk), .long lf, .long lo, .ref ms])), (mk, .inl (cA 0, 4, .inl kf)), (mp, .inl (cA 0, 4, .inl pf)), (me, .inl (cA 0, 4, .inl ef)), (mtb, .inl (cA 0, 52, .inl tbf)), (mx, .inl (cA 0, 256, .inl xsf)), (mn, .inl (cA 0, 4, .inl tkf)), (ms, .inl (cA 0, 40, .inl sts))] sz) [(mo, .inr (6, [.ref mw, .int (nI cnt), .ref mk, .ref mp, .ref mz, .ref me, .ref mtb, .ref my, .ref mx, .ref mu, .ref mn, .ref mg, .int hf, .int fro, .ref mf, .int (nI fsz), .ref mi, .int (nI isz), .int u, .ref mh, .ref mv, .int (nI rk), .long lf, .long lo, .ref ms])), (mk, .inl (cA 0, 4, .inl kf)), (mp, .inl (cA 0, 4, .inl pf)), (me, .inl (cA 0, 4, .inl ef)), (mtb, .inl (cA 0, 52, .inl tbf)), (mx, .inl (cA 0, 256, .inl xsf)), (mn, .inl (cA 0, 4, .inl tkf)), (ms, .inl (cA 0, 40, .inl (rs_pl K P seed wN j xsf (P + tk) 41 (jv_lshl 1 (nI (K + P)) - 1) (rs_clr sts 40))))] t) (va_A [(mo, .inr (6, [.ref mw, .int (nI cnt), .ref mk, .ref mp, .ref mz, .ref me, .ref mtb, .ref my, .ref mx, .ref mu, .ref mn, .ref mg, .int hf, .int fro, .ref mf, .int (nI fsz), .ref mi, .int (nI isz), .int z, .ref mh, .ref mv, .int (nI rk), .long lf, .long lo, .ref ms])), (mk, .inl (cA 0, 4, .inl kf)), (mp, .inl (cA 0, 4, .inl pf)), (me, .inl (cA 0, 4, .inl ef)), (mtb, .inl (cA 0, 52, .inl tbf)), (mx, .inl (cA 0, 256, .inl xsf)), (mn, .inl (cA 0, 4, .inl tkf)), (ms, .inl (cA 0, 40, .inl sts))] sz)) 0 0 (va_A [(mo, .inr (6, [.ref mw, .int (nI cnt), .ref mk, .ref mp, .ref mz, .ref me, .ref mtb, .ref my, .ref mx, .ref mu, .ref mn, .ref mg, .int hf, .int fro, .ref mf, .int (nI fsz), .ref mi, .int (nI isz), .int z, .ref mh, .ref mv, .int (nI rk), .long lf, .long lo, .ref ms])), (mk, .inl (cA 0, 4, .inl kf)), (mp, .inl (cA 0, 4, .inl pf)), (me, .inl (cA 0, 4, .inl ef)), (mtb, .inl (cA 0, 52, .inl tbf)), (mx, .inl (cA 0, 256, .inl xsf)), (mn, .inl (cA 0, 4, .inl tkf)), (ms, .inl (cA 0, 40, .inl sts))] sz) := by
  refine Met.ofW (cc := cX6_peel) (maxL := 10) (ret := none) (by decide) rfl ?_
  intro p e s m args below meth c s₁ B hml hv
  obtain ⟨rfl, hsz, hP, hK, hN, hD0⟩ := hv
  have hx := B.exec
  have hb := B.bytes
  have hr := B.returns
  have hts0 := atoms_spec (ws := (kw_X6_peel)) B.pre
  have hts : ∀ w ∈ TB, w.before _ s = true := fun w h => hts0 w (List.mem_cons_of_mem _ h)
  have hown : s.vm.findClass RX6 = some m.cls := findClass_of_methodNamed B.named
  have hlocks := B.notSynchronized
  subst hsz
  have hD := hD0.self (sz := s.heap.size)
  generalize hAe : va_A [(mo, .inr (6, [.ref mw, .int (nI cnt), .ref mk, .ref mp, .ref mz, .ref me, .ref mtb, .ref my, .ref mx, .ref mu, .ref mn, .ref mg, .int hf, .int fro, .ref mf, .int (nI fsz), .ref mi, .int (nI isz), .int z, .ref mh, .ref mv, .int (nI rk), .long lf, .long lo, .ref ms])), (mk, .inl (cA 0, 4, .inl kf)), (mp, .inl (cA 0, 4, .inl pf)), (me, .inl (cA 0, 4, .inl ef)), (mtb, .inl (cA 0, 52, .inl tbf)), (mx, .inl (cA 0, 256, .inl xsf)), (mn, .inl (cA 0, 4, .inl tkf)), (ms, .inl (cA 0, 40, .inl sts))] s.heap.size = A at hD ⊢
  have hA : ∀ q : Nat, s.heap.size ≤ q → A q := fun q h => by rw [← hAe]; exact Or.inr h
  have hS : va_S A s.heap s.heap [] := va_S.rf
  have hk_0 := hts (.fieldLink RX6 16 "FountainRowsModel" "ps" "[I") tb_309
  have hk_1 := hts (.fieldLink RX6 38 "FountainRowsModel" "taken" "[I") tb_383
  have hk_2 := hts (.fieldLink RX6 56 "FountainRowsModel" "states" "[I") tb_424
  have hk_3 := hts (.constantLong RX6 95 (-1)) tb_319
  have hl := lv_entry ([.ref mo, .int (nI j)]) (n := 10) (Nat.le_of_ble_eq_true rfl)
  rw [lg_entry_eq]
  generalize (lg_sl ([.ref mo, .int (nI j)]) ++ List.replicate (10 - (lg_sl ([.ref mo, .int (nI j)])).length) Slot.unset).toArray = ls at hl ⊢
  have hl : lv_has ls 10 [(0, .ref mo), (1, .int (nI j))] := hl
  refine lv_lconst (v := 1) hx hb dX6_peel_0 (by decide) ?_
  refine lv_aload_n hx hb dX6_peel_1 rfl (lv_at hl 0 rfl) ?_
  refine lv_iload_n hx hb dX6_peel_2 rfl (lv_at hl 1 rfl) ?_
  have hPc := hP.sub (ws' := [(mo, .inr (6, [.ref mw, .int (nI cnt), .ref mk, .ref mp, .ref mz, .ref me, .ref mtb, .ref my, .ref mx, .ref mu, .ref mn, .ref mg, .int hf, .int fro, .ref mf, .int (nI fsz), .ref mi, .int (nI isz), .int z, .ref mh, .ref mv, .int (nI rk), .long lf, .long lo, .ref ms])), (mk, .inl (cA 0, 4, .inl kf)), (mp, .inl (cA 0, 4, .inl pf))]) [0, 1, 2] rfl
  refine kq_csi (va_runV (As := [.int (nI j)]) (rest := [.long 1]) ⟨hx, hb, hml, hown, hts⟩ (c_M_parts l dC dI cA mo mw mk mp mz me mtb my mx mu mn mg mf mi mh mv ms cnt hf fro fsz isz z rk lf lo kf pf j K P (by first | assumption | omega) (by first | assumption | omega) (by first | assumption | omega)) (cwV 1 hts (kg_V tb_325 tb_326 tb_327 tb_318 tb_324) rfl rfl rfl (by decide +kernel) ⟨Nat.le_of_ble_eq_true rfl, Nat.le_of_ble_eq_true rfl⟩) (kpv_ro hK hN hPc (ci := 6) (q0 := 0) rfl rfl rfl) rfl rfl hl.1 rfl (lv_room (Nat.le_of_ble_eq_true rfl)) dX6_peel_3 ⟨Nat.le_of_ble_eq_true rfl, Nat.le_of_ble_eq_true rfl⟩) (fun r_1 hr_1 => ?_)
  refine kt_i (y := nI (K + P)) hr_1 ?_
  refine lv_lshl (v := jv_lshl 1 (nI (K + P))) hx hb dX6_peel_6 rfl ?_
  refine lv_lconst (v := 1) hx hb dX6_peel_7 (by decide) ?_
  refine lv_lsub hx hb dX6_peel_8 ?_
  refine lv_lstore_n (lv' := [(2, .long ((jv_lshl 1 (nI (K + P))) - 1)), (0, .ref mo), (1, .int (nI j))]) hx hb dX6_peel_9 rfl hl (by decide) rfl (fun ls hl => ?_)
  refine lv_iconst (v := 0) hx hb dX6_peel_10 (by decide) ?_
  refine lv_istore (lv' := [(4, .int 0), (2, .long ((jv_lshl 1 (nI (K + P))) - 1)), (0, .ref mo), (1, .int (nI j))]) hx hb dX6_peel_11 hl (by decide) rfl (fun ls hl => ?_)
  have hi_hk : 0 ≤ 40 := (by omega)
  have hi_h1 : sts = rs_clr sts 0 := (rs_clr_0 _).symm
  have hl9 : lv_has ls 10 [(4, .int (nI 0)), (2, .long ((jv_lshl 1 (nI (K + P))) - 1)), (0, .ref mo), (1, .int (nI j))] := lv_sub hl [0, 1, 2, 3] rfl
  refine k_loop2 (I := fun (k : Nat) (f1 : Nat → Int32) (H : Heap) (locs : List Loc) (ls : Array Slot) => (k ≤ 40) ∧ (f1 = rs_clr sts k) ∧ lv_has ls 10 [(4, .int (nI k)), (2, .long ((jv_lshl 1 (nI (K + P))) - 1)), (0, .ref mo), (1, .int (nI j))] ∧ va_P (dC, dI) vwCl [(mo, .inr (6, [.ref mw, .int (nI cnt), .ref mk, .ref mp, .ref mz, .ref me, .ref mtb, .ref my, .ref mx, .ref mu, .ref mn, .ref mg, .int hf, .int fro, .ref mf, .int (nI fsz), .ref mi, .int (nI isz), .int z, .ref mh, .ref mv, .int (nI rk), .long lf, .long lo, .ref ms])), (mk, .inl (cA 0, 4, .inl kf)), (mp, .inl (cA 0, 4, .inl pf)), (me, .inl (cA 0, 4, .inl ef)), (mtb, .inl (cA 0, 52, .inl tbf)), (mx, .inl (cA 0, 256, .inl xsf)), (mn, .inl (cA 0, 4, .inl tkf)), (ms, .inl (cA 0, 40, .inl f1))] H ∧ va_D A [(mo, .inr (6, [.ref mw, .int (nI cnt), .ref mk, .ref mp, .ref mz, .ref me, .ref mtb, .ref my, .ref mx, .ref mu, .ref mn, .ref mg, .int hf, .int fro, .ref mf, .int (nI fsz), .ref mi, .int (nI isz), .int z, .ref mh, .ref mv, .int (nI rk), .long lf, .long lo, .ref ms])), (mk, .inl (cA 0, 4, .inl kf)), (mp, .inl (cA 0, 4, .inl pf)), (me, .inl (cA 0, 4, .inl ef)), (mtb, .inl (cA 0, 52, .inl tbf)), (mx, .inl (cA 0, 256, .inl xsf)), (mn, .inl (cA 0, 4, .inl tkf)), (ms, .inl (cA 0, 40, .inl f1))] ∧ va_S A s.heap H locs) (μ := fun k f1 => 40 - k) ?_ 0 sts ⟨hi_hk, hi_h1, hl9, hP, hD, hS⟩
  intro k f1 H locs ls hI9 ih_L0
  obtain ⟨hk, h1, hl, hP, hD, hS⟩ := hI9
  refine lv_iload hx hb dX6_peel_13 (lv_at hl 0 rfl) ?_
  refine lv_bipush (v := 40) hx hb dX6_peel_15 (by decide) ?_
  refine lv_icmp_ge (tgt := 34) hx hb dX6_peel_17 (by decide) (fun c_2 => ?_) (fun c_2 => ?_)
  · have c_2 : 40 ≤ (nI k) := c_2
    have hk9 : 40 ≤ k := (ku_le (a := 40) (b := k) (by omega) (by omega)).mp c_2
    have e40 : k = 40 := by omega
    rw [e40] at h1
    refine lv_iconst (v := 1) hx hb dX6_peel_34 (by decide) ?_
    refine lv_istore (lv' := [(4, .int 1), (2, .long ((jv_lshl 1 (nI (K + P))) - 1)), (0, .ref mo), (1, .int (nI j))]) hx hb dX6_peel_35 hl (by decide) rfl (fun ls hl => ?_)
    have hi_hit : 0 ≤ 41 := (by omega)
    have hi_hop : rs_cb ((jv_lshl 1 (nI (K + P))) - 1) 40 + 0 = K + P ∨ (1 : Int32) = 0 := (Or.inl (rs_full (by omega)))
    have hi_hb01 : (1 : Int32) = 0 ∨ (1 : Int32) = 1 := (Or.inr rfl)
    have hi_hrem : (if (1 : Int32) = 0 then f1 else rs_pl K P seed wN j xsf (P + tk) (41 - 0) ((jv_lshl 1 (nI (K + P))) - 1) f1) = rs_pl K P seed wN j xsf (P + tk) 41 (jv_lshl 1 (nI (K + P)) - 1) (rs_clr sts 40) := (by rw [h1]; rfl)
    have hl9 : lv_has ls 10 [(4, .int 1), (2, .long ((jv_lshl 1 (nI (K + P))) - 1)), (0, .ref mo), (1, .int (nI j))] := lv_sub hl [0, 1, 2, 3] rfl
    refine k_loop5 (I := fun (it : Nat) (b1 : Int32) (z1 : Int32) (op : Int64) (f2 : Nat → Int32) (H : Heap) (locs : List Loc) (ls : Array Slot) => (it ≤ 41) ∧ (rs_cb op 40 + it = K + P ∨ (b1 : Int32) = 0) ∧ ((b1 : Int32) = 0 ∨ (b1 : Int32) = 1) ∧ ((if (b1 : Int32) = 0 then f2 else rs_pl K P seed wN j xsf (P + tk) (41 - it) op f2) = rs_pl K P seed wN j xsf (P + tk) 41 (jv_lshl 1 (nI (K + P)) - 1) (rs_clr sts 40)) ∧ lv_has ls 10 [(4, .int b1), (2, .long op), (0, .ref mo), (1, .int (nI j))] ∧ va_P (dC, dI) vwCl [(mo, .inr (6, [.ref mw, .int (nI cnt), .ref mk, .ref mp, .ref mz, .ref me, .ref mtb, .ref my, .ref mx, .ref mu, .ref mn, .ref mg, .int hf, .int fro, .ref mf, .int (nI fsz), .ref mi, .int (nI isz), .int z1, .ref mh, .ref mv, .int (nI rk), .long lf, .long lo, .ref ms])), (mk, .inl (cA 0, 4, .inl kf)), (mp, .inl (cA 0, 4, .inl pf)), (me, .inl (cA 0, 4, .inl ef)), (mtb, .inl (cA 0, 52, .inl tbf)), (mx, .inl (cA 0, 256, .inl xsf)), (mn, .inl (cA 0, 4, .inl tkf)), (ms, .inl (cA 0, 40, .inl f2))] H ∧ va_D A [(mo, .inr (6, [.ref mw, .int (nI cnt), .ref mk, .ref mp, .ref mz, .ref me, .ref mtb, .ref my, .ref mx, .ref mu, .ref mn, .ref mg, .int hf, .int fro, .ref mf, .int (nI fsz), .ref mi, .int (nI isz), .int z1, .ref mh, .ref mv, .int (nI rk), .long lf, .long lo, .ref ms])), (mk, .inl (cA 0, 4, .inl kf)), (mp, .inl (cA 0, 4, .inl pf)), (me, .inl (cA 0, 4, .inl ef)), (mtb, .inl (cA 0, 52, .inl tbf)), (mx, .inl (cA 0, 256, .inl xsf)), (mn, .inl (cA 0, 4, .inl tkf)), (ms, .inl (cA 0, 40, .inl f2))] ∧ va_S A s.heap H locs) (μ := fun it b1 z1 op f2 => (if (b1 : Int32) = 0 then 0 else 42 - it)) ?_ 0 1 z ((jv_lshl 1 (nI (K + P))) - 1) f1 ⟨hi_hit, hi_hop, hi_hb01, hi_hrem, hl9, hP, hD, hS⟩
    intro it b1 z1 op f2 H locs ls hI9 ih_L1
    obtain ⟨hit, hop, hb01, hrem, hl, hP, hD, hS⟩ := hI9
    refine lv_iload hx hb dX6_peel_37 (lv_at hl 0 rfl) ?_
    refine lv_if_eq (tgt := 200) hx hb dX6_peel_39 (by decide) (fun c_3 => ?_) (fun c_3 => ?_)
    · have c_3 : b1 = 0 := c_3
      have hb0 := c_3
      have hP9 := hP.sub (ws' := [(mo, .inr (6, [.ref mw, .int (nI cnt), .ref mk, .ref mp, .ref mz, .ref me, .ref mtb, .ref my, .ref mx, .ref mu, .ref mn, .ref mg, .int hf, .int fro, .ref mf, .int (nI fsz), .ref mi, .int (nI isz), .int z1, .ref mh, .ref mv, .int (nI rk), .long lf, .long lo, .ref ms])), (mk, .inl (cA 0, 4, .inl kf)), (mp, .inl (cA 0, 4, .inl pf)), (me, .inl (cA 0, 4, .inl ef)), (mtb, .inl (cA 0, 52, .inl tbf)), (mx, .inl (cA 0, 256, .inl xsf)), (mn, .inl (cA 0, 4, .inl tkf)), (ms, .inl (cA 0, 40, .inl f2))]) [0, 1, 2, 3, 4, 5, 6, 7] rfl
      have hD9 := hD.sub (ws' := [(mo, .inr (6, [.ref mw, .int (nI cnt), .ref mk, .ref mp, .ref mz, .ref me, .ref mtb, .ref my, .ref mx, .ref mu, .ref mn, .ref mg, .int hf, .int fro, .ref mf, .int (nI fsz), .ref mi, .int (nI isz), .int z1, .ref mh, .ref mv, .int (nI rk), .long lf, .long lo, .ref ms])), (mk, .inl (cA 0, 4, .inl kf)), (mp, .inl (cA 0, 4, .inl pf)), (me, .inl (cA 0, 4, .inl ef)), (mtb, .inl (cA 0, 52, .inl tbf)), (mx, .inl (cA 0, 256, .inl xsf)), (mn, .inl (cA 0, 4, .inl tkf)), (ms, .inl (cA 0, 40, .inl f2))]) [0, 1, 2, 3, 4, 5, 6, 7] (by decide) rfl
      have e9_0 : (rs_pl K P seed wN j xsf (P + tk) 41 (jv_lshl 1 (nI (K + P)) - 1) (rs_clr sts 40)) = f2 := (by rw [← hrem, if_pos hb0])
      have e9 : ([(mo, .inr (6, [.ref mw, .int (nI cnt), .ref mk, .ref mp, .ref mz, .ref me, .ref mtb, .ref my, .ref mx, .ref mu, .ref mn, .ref mg, .int hf, .int fro, .ref mf, .int (nI fsz), .ref mi, .int (nI isz), .int z1, .ref mh, .ref mv, .int (nI rk), .long lf, .long lo, .ref ms])), (mk, .inl (cA 0, 4, .inl kf)), (mp, .inl (cA 0, 4, .inl pf)), (me, .inl (cA 0, 4, .inl ef)), (mtb, .inl (cA 0, 52, .inl tbf)), (mx, .inl (cA 0, 256, .inl xsf)), (mn, .inl (cA 0, 4, .inl tkf)), (ms, .inl (cA 0, 40, .inl (rs_pl K P seed wN j xsf (P + tk) 41 (jv_lshl 1 (nI (K + P)) - 1) (rs_clr sts 40))))] : va_W) = [(mo, .inr (6, [.ref mw, .int (nI cnt), .ref mk, .ref mp, .ref mz, .ref me, .ref mtb, .ref my, .ref mx, .ref mu, .ref mn, .ref mg, .int hf, .int fro, .ref mf, .int (nI fsz), .ref mi, .int (nI isz), .int z1, .ref mh, .ref mv, .int (nI rk), .long lf, .long lo, .ref ms])), (mk, .inl (cA 0, 4, .inl kf)), (mp, .inl (cA 0, 4, .inl pf)), (me, .inl (cA 0, 4, .inl ef)), (mtb, .inl (cA 0, 52, .inl tbf)), (mx, .inl (cA 0, 256, .inl xsf)), (mn, .inl (cA 0, 4, .inl tkf)), (ms, .inl (cA 0, 40, .inl f2))] := by rw [e9_0]
      exact W.vret hx hb hr (fun t9 ht9 hW9 => ⟨⟨z1, rfl, trivial, by rw [ht9, e9]; exact hP9, by rw [e9]; exact hD9⟩, hS.F ht9⟩) hS.2.2 dX6_peel_200
    · have c_3 : ¬ (b1 = 0) := c_3
      have hb0 := c_3
      have hop1 : rs_cb op 40 + it = K + P := by rcases hop with h | h; exact h; exact absurd h hb0
      rw [if_neg hb0] at hrem
      refine lv_aload_n hx hb dX6_peel_42 rfl (lv_at hl 2 rfl) ?_
      refine va_get (D := (dC, dI)) (ci := 6) (v := .ref mp) (C := RX6) (T := TX6) (N := 25) hx hb hts inX6 hown hK hP 0 rfl rfl 3 (by decide) hk_0 (fun _ h9 => h9) rfl dX6_peel_43 ?_
      refine lv_iload_n hx hb dX6_peel_46 rfl (lv_at hl 3 rfl) ?_
      refine va_iald (D := (dC, dI)) hx hb hK hP 2 0 rfl rfl (vp_in_nI hj4 (by omega)) dX6_peel_47 ?_
      refine kt_i (congrArg pf (nI_clamp (by omega : j < 2 ^ 31))) ?_
      refine kt_i (y := nI P) hpf ?_
      refine lv_aload_n hx hb dX6_peel_48 rfl (lv_at hl 2 rfl) ?_
      refine va_get (D := (dC, dI)) (ci := 6) (v := .ref mn) (C := RX6) (T := TX6) (N := 25) hx hb hts inX6 hown hK hP 0 rfl rfl 10 (by decide) hk_1 (fun _ h9 => h9) rfl dX6_peel_49 ?_
      refine lv_iload_n hx hb dX6_peel_52 rfl (lv_at hl 3 rfl) ?_
      refine va_iald (D := (dC, dI)) hx hb hK hP 6 0 rfl rfl (vp_in_nI hj4 (by omega)) dX6_peel_53 ?_
      refine kt_i (congrArg tkf (nI_clamp (by omega : j < 2 ^ 31))) ?_
      refine kt_i (y := nI tk) htf ?_
      refine lv_iadd hx hb dX6_peel_54 ?_
      refine kt_i (y := nI (P + tk)) (nI_add P tk) ?_
      refine lv_istore (lv' := [(5, .int (nI (P + tk))), (4, .int b1), (2, .long op), (0, .ref mo), (1, .int (nI j))]) hx hb dX6_peel_55 hl (by decide) rfl (fun ls hl => ?_)
      refine lv_iconst (v := 0) hx hb dX6_peel_57 (by decide) ?_
      refine lv_istore (lv' := [(6, .int 0), (5, .int (nI (P + tk))), (4, .int b1), (2, .long op), (0, .ref mo), (1, .int (nI j))]) hx hb dX6_peel_58 hl (by decide) rfl (fun ls hl => ?_)
      have hi_hq : 0 ≤ P + tk := (by omega)
      have hi_hrem2 : rs_fk K P seed wN j xsf op (P + tk - 0) 0 = rs_fk K P seed wN j xsf op (P + tk) 0 := rfl
      have hl9 : lv_has ls 10 [(6, .int (nI 0)), (5, .int (nI (P + tk))), (4, .int b1), (2, .long op), (0, .ref mo), (1, .int (nI j))] := lv_sub hl [0, 1, 2, 3, 4, 5] rfl
      refine k_loop2 (I := fun (q : Nat) (z3 : Int32) (H : Heap) (locs : List Loc) (ls : Array Slot) => (q ≤ P + tk) ∧ (rs_fk K P seed wN j xsf op (P + tk - q) q = rs_fk K P seed wN j xsf op (P + tk) 0) ∧ lv_has ls 10 [(6, .int (nI q)), (5, .int (nI (P + tk))), (4, .int b1), (2, .long op), (0, .ref mo), (1, .int (nI j))] ∧ va_P (dC, dI) vwCl [(mo, .inr (6, [.ref mw, .int (nI cnt), .ref mk, .ref mp, .ref mz, .ref me, .ref mtb, .ref my, .ref mx, .ref mu, .ref mn, .ref mg, .int hf, .int fro, .ref mf, .int (nI fsz), .ref mi, .int (nI isz), .int z3, .ref mh, .ref mv, .int (nI rk), .long lf, .long lo, .ref ms])), (mk, .inl (cA 0, 4, .inl kf)), (mp, .inl (cA 0, 4, .inl pf)), (me, .inl (cA 0, 4, .inl ef)), (mtb, .inl (cA 0, 52, .inl tbf)), (mx, .inl (cA 0, 256, .inl xsf)), (mn, .inl (cA 0, 4, .inl tkf)), (ms, .inl (cA 0, 40, .inl f2))] H ∧ va_D A [(mo, .inr (6, [.ref mw, .int (nI cnt), .ref mk, .ref mp, .ref mz, .ref me, .ref mtb, .ref my, .ref mx, .ref mu, .ref mn, .ref mg, .int hf, .int fro, .ref mf, .int (nI fsz), .ref mi, .int (nI isz), .int z3, .ref mh, .ref mv, .int (nI rk), .long lf, .long lo, .ref ms])), (mk, .inl (cA 0, 4, .inl kf)), (mp, .inl (cA 0, 4, .inl pf)), (me, .inl (cA 0, 4, .inl ef)), (mtb, .inl (cA 0, 52, .inl tbf)), (mx, .inl (cA 0, 256, .inl xsf)), (mn, .inl (cA 0, 4, .inl tkf)), (ms, .inl (cA 0, 40, .inl f2))] ∧ va_S A s.heap H locs) (μ := fun q z3 => P + tk - q) ?_ 0 z1 ⟨hi_hq, hi_hrem2, hl9, hP, hD, hS⟩
      intro q z3 H locs ls hI9 ih_L2
      obtain ⟨hq, hrem2, hl, hP, hD, hS⟩ := hI9
      refine lv_iload hx hb dX6_peel_60 (lv_at hl 0 rfl) ?_
      refine lv_iload hx hb dX6_peel_62 (lv_at hl 1 rfl) ?_
      refine lv_icmp_ge (tgt := 89) hx hb dX6_peel_64 (by decide) (fun c_4 => ?_) (fun c_4 => ?_)
      · have c_4 : (nI (P + tk)) ≤ (nI q) := c_4
        have hk9 : (P + tk) ≤ q := (ku_le (a := (P + tk)) (b := q) (by omega) (by omega)).mp c_4
        have efk : rs_fk K P seed wN j xsf op (P + tk) 0 = P + tk := by rw [← hrem2, show P + tk - q = 0 from (by omega)]; show q = _; omega
        refine lv_iconst (v := (-1)) hx hb dX6_peel_89 (by decide) ?_
        refine lv_istore (lv' := [(7, .int (-1)), (6, .int (nI q)), (5, .int (nI (P + tk))), (4, .int b1), (2, .long op), (0, .ref mo), (1, .int (nI j))]) hx hb dX6_peel_90 hl (by decide) rfl (fun ls hl => ?_)
        refine lv_iload hx hb dX6_peel_92 (lv_at hl 1 rfl) ?_
        refine lv_iload hx hb dX6_peel_94 (lv_at hl 2 rfl) ?_
        refine lv_icmp_ge (tgt := 142) hx hb dX6_peel_96 (by decide) (fun c_5 => ?_) (fun c_5 => ?_)
        · have c_5 : (nI (P + tk)) ≤ (nI q) := c_5
          refine lv_aload_n hx hb dX6_peel_142 rfl (lv_at hl 5 rfl) ?_
          refine lv_iload_n hx hb dX6_peel_143 rfl (lv_at hl 6 rfl) ?_
          refine lv_iload hx hb dX6_peel_144 (lv_at hl 2 rfl) ?_
          refine lv_lload_n hx hb dX6_peel_146 rfl (lv_at hl 4 rfl) ?_
          have hPc := hP.sub (ws' := [(mo, .inr (6, [.ref mw, .int (nI cnt), .ref mk, .ref mp, .ref mz, .ref me, .ref mtb, .ref my, .ref mx, .ref mu, .ref mn, .ref mg, .int hf, .int fro, .ref mf, .int (nI fsz), .ref mi, .int (nI isz), .int z3, .ref mh, .ref mv, .int (nI rk), .long lf, .long lo, .ref ms])), (mk, .inl (cA 0, 4, .inl kf)), (mp, .inl (cA 0, 4, .inl pf)), (me, .inl (cA 0, 4, .inl ef)), (mtb, .inl (cA 0, 52, .inl tbf)), (mx, .inl (cA 0, 256, .inl xsf))]) [0, 1, 2, 3, 4, 5] rfl
          have hDc := hD.sub (ws' := [(mo, .inr (6, [.ref mw, .int (nI cnt), .ref mk, .ref mp, .ref mz, .ref me, .ref mtb, .ref my, .ref mx, .ref mu, .ref mn, .ref mg, .int hf, .int fro, .ref mf, .int (nI fsz), .ref mi, .int (nI isz), .int z3, .ref mh, .ref mv, .int (nI rk), .long lf, .long lo, .ref ms])), (mk, .inl (cA 0, 4, .inl kf)), (mp, .inl (cA 0, 4, .inl pf)), (me, .inl (cA 0, 4, .inl ef)), (mtb, .inl (cA 0, 52, .inl tbf)), (mx, .inl (cA 0, 256, .inl xsf))]) [0, 1, 2, 3, 4, 5] (by decide) rfl
          have hFc := va_free (wc := [(mo, .inr (6, [.ref mw, .int (nI cnt), .ref mk, .ref mp, .ref mz, .ref me, .ref mtb, .ref my, .ref mx, .ref mu, .ref mn, .ref mg, .int hf, .int fro, .ref mf, .int (nI fsz), .ref mi, .int (nI isz), .int z3, .ref mh, .ref mv, .int (nI rk), .long lf, .long lo, .ref ms])), (mk, .inl (cA 0, 4, .inl kf)), (mp, .inl (cA 0, 4, .inl pf)), (me, .inl (cA 0, 4, .inl ef)), (mtb, .inl (cA 0, 52, .inl tbf)), (mx, .inl (cA 0, 256, .inl xsf))]) hD hS hA [0, 1, 2, 3, 4, 5] rfl
          refine va_calli (va_runV (As := [.int (nI j), .int (nI (P + tk)), .long op]) (rest := []) ⟨hx, hb, hml, hown, hts⟩ (c_M_most l dC dI cA H.size mo mw mk mp mz me mtb my mx mu mn mg mf mi mh mv ms cnt hf fro fsz isz z3 rk lf lo kf pf ef tbf xsf j K P seed wN (P + tk) op (by first | assumption | omega) (by first | assumption | omega) (by first | assumption | omega) (by first | assumption | omega) (by first | assumption | omega) (by first | assumption | omega) (by first | assumption | omega) (by first | assumption | omega) (by first | assumption | omega) (by first | assumption | omega) (by first | assumption | omega)) (cwV 3 hts (kg_V tb_421 tb_422 tb_423 tb_318 tb_420) rfl rfl rfl (by decide +kernel) ⟨Nat.le_of_ble_eq_true rfl, Nat.le_of_ble_eq_true rfl⟩) (kpv_rw hK hN hPc hDc (ci := 6) (q0 := 0) rfl rfl rfl) rfl rfl hl.1 rfl (lv_room (Nat.le_of_ble_eq_true rfl)) dX6_peel_147 ⟨Nat.le_of_ble_eq_true rfl, Nat.le_of_ble_eq_true rfl⟩) hS (fun q _ h => hFc q h) hFc (fun r_6 u9 t9 H1 locs ht9 hvm9 hr_6 hB hz1 hk1 hS => ?_)
          obtain ⟨z2_7, rfl⟩ : ∃ z, z = u9 := ⟨_, rfl⟩
          obtain ⟨hP1, hD1⟩ := hB
          rw [ht9] at hP1
          obtain ⟨hP, hD⟩ := va_join (wr := [(mn, .inl (cA 0, 4, .inl tkf)), (ms, .inl (cA 0, 40, .inl f2))]) (w1 := [(mo, .inr (6, [.ref mw, .int (nI cnt), .ref mk, .ref mp, .ref mz, .ref me, .ref mtb, .ref my, .ref mx, .ref mu, .ref mn, .ref mg, .int hf, .int fro, .ref mf, .int (nI fsz), .ref mi, .int (nI isz), .int z2_7, .ref mh, .ref mv, .int (nI rk), .long lf, .long lo, .ref ms])), (mk, .inl (cA 0, 4, .inl kf)), (mp, .inl (cA 0, 4, .inl pf)), (me, .inl (cA 0, 4, .inl ef)), (mtb, .inl (cA 0, 52, .inl tbf)), (mx, .inl (cA 0, 256, .inl xsf))]) hP hD [0, 1, 2, 3, 4, 5] [6, 7] rfl rfl (by decide) (by decide) hk1 hFc hP1 hD1
          generalize H1 = H at hP hS ⊢
          have hP : va_P (dC, dI) vwCl [(mn, .inl (cA 0, 4, .inl tkf)), (ms, .inl (cA 0, 40, .inl f2)), (mo, .inr (6, [.ref mw, .int (nI cnt), .ref mk, .ref mp, .ref mz, .ref me, .ref mtb, .ref my, .ref mx, .ref mu, .ref mn, .ref mg, .int hf, .int fro, .ref mf, .int (nI fsz), .ref mi, .int (nI isz), .int z2_7, .ref mh, .ref mv, .int (nI rk), .long lf, .long lo, .ref ms])), (mk, .inl (cA 0, 4, .inl kf)), (mp, .inl (cA 0, 4, .inl pf)), (me, .inl (cA 0, 4, .inl ef)), (mtb, .inl (cA 0, 52, .inl tbf)), (mx, .inl (cA 0, 256, .inl xsf))] H := hP
          have hD : va_D A [(mn, .inl (cA 0, 4, .inl tkf)), (ms, .inl (cA 0, 40, .inl f2)), (mo, .inr (6, [.ref mw, .int (nI cnt), .ref mk, .ref mp, .ref mz, .ref me, .ref mtb, .ref my, .ref mx, .ref mu, .ref mn, .ref mg, .int hf, .int fro, .ref mf, .int (nI fsz), .ref mi, .int (nI isz), .int z2_7, .ref mh, .ref mv, .int (nI rk), .long lf, .long lo, .ref ms])), (mk, .inl (cA 0, 4, .inl kf)), (mp, .inl (cA 0, 4, .inl pf)), (me, .inl (cA 0, 4, .inl ef)), (mtb, .inl (cA 0, 52, .inl tbf)), (mx, .inl (cA 0, 256, .inl xsf))] := hD
          refine kt_i (y := rs_fi (rs_ms K P seed wN j xsf op (P + tk) (K + P)).1) hr_6 ?_
          refine lv_istore (lv' := [(7, .int (rs_fi (rs_ms K P seed wN j xsf op (P + tk) (K + P)).1)), (6, .int (nI q)), (5, .int (nI (P + tk))), (4, .int b1), (2, .long op), (0, .ref mo), (1, .int (nI j))]) hx hb dX6_peel_150 hl (by decide) rfl (fun ls hl => ?_)
          refine lv_iload hx hb dX6_peel_152 (lv_at hl 0 rfl) ?_
          refine lv_if_lt (tgt := 165) hx hb dX6_peel_154 (by decide) (fun c_8 => ?_) (fun c_8 => ?_)
          · have c_8 : (rs_fi (rs_ms K P seed wN j xsf op (P + tk) (K + P)).1) < 0 := c_8
            have hneg := c_8
            have hfd : rs_found K P seed wN j xsf (P + tk) op = none := rs_found_n (by omega) efk hneg
            refine lv_iload hx hb dX6_peel_165 (lv_at hl 0 rfl) ?_
            refine lv_if_lt (tgt := 174) hx hb dX6_peel_167 (by decide) (fun c_9 => ?_) (fun c_9 => ?_)
            · have c_9 : (rs_fi (rs_ms K P seed wN j xsf op (P + tk) (K + P)).1) < 0 := c_9
              refine lv_iconst (v := 0) hx hb dX6_peel_174 (by decide) ?_
              refine lv_istore (lv' := [(4, .int 0), (7, .int (rs_fi (rs_ms K P seed wN j xsf op (P + tk) (K + P)).1)), (6, .int (nI q)), (5, .int (nI (P + tk))), (2, .long op), (0, .ref mo), (1, .int (nI j))]) hx hb dX6_peel_175 hl (by decide) rfl (fun ls hl => ?_)
              refine lv_lload_n hx hb dX6_peel_177 rfl (lv_at hl 4 rfl) ?_
              refine lv_iload hx hb dX6_peel_178 (lv_at hl 0 rfl) ?_
              refine lv_if_eq (tgt := 194) hx hb dX6_peel_180 (by decide) (fun c_10 => ?_) (fun c_10 => ?_)
              · have c_10 : (0 : Int32) = 0 := c_10
                refine lv_lload_n hx hb dX6_peel_194 rfl (lv_at hl 4 rfl) ?_
                refine lv_land hx hb dX6_peel_195 ?_
                refine lv_lstore_n (lv' := [(2, .long (op &&& op)), (4, .int 0), (7, .int (rs_fi (rs_ms K P seed wN j xsf op (P + tk) (K + P)).1)), (6, .int (nI q)), (5, .int (nI (P + tk))), (0, .ref mo), (1, .int (nI j))]) hx hb dX6_peel_196 rfl hl (by decide) rfl (fun ls hl => ?_)
                refine lv_goto (tgt := 37) hx hb dX6_peel_197 (by decide) ?_
                have hit9 : it + 1 ≤ 41 := by omega
                have hrem9 := (rs_pl_n hfd (by omega : it ≤ 40) (f := f2) (op2 := op &&& op)).symm.trans hrem
                have hmu9 : (if (0 : Int32) = 0 then 0 else 42 - (it + 1)) < (if b1 = 0 then 0 else 42 - it) := by rw [if_neg hb0, if_pos rfl]; omega
                have hi_hit : (it + 1) ≤ 41 := (by first | omega | exact hit9)
                have hi_hop : rs_cb (op &&& op) 40 + (it + 1) = K + P ∨ (0 : Int32) = 0 := (by first | exact Or.inr rfl | exact Or.inl hop9)
                have hi_hb01 : (0 : Int32) = 0 ∨ (0 : Int32) = 1 := (by first | exact Or.inl rfl | exact Or.inr rfl)
                have hi_hrem : (if (0 : Int32) = 0 then f2 else rs_pl K P seed wN j xsf (P + tk) (41 - (it + 1)) (op &&& op) f2) = rs_pl K P seed wN j xsf (P + tk) 41 (jv_lshl 1 (nI (K + P)) - 1) (rs_clr sts 40) := (hrem9)
                have hl9 : lv_has ls 10 [(4, .int 0), (2, .long (op &&& op)), (0, .ref mo), (1, .int (nI j))] := lv_sub hl [1, 0, 5, 6] rfl
                have hP9 : va_P (dC, dI) vwCl [(mo, .inr (6, [.ref mw, .int (nI cnt), .ref mk, .ref mp, .ref mz, .ref me, .ref mtb, .ref my, .ref mx, .ref mu, .ref mn, .ref mg, .int hf, .int fro, .ref mf, .int (nI fsz), .ref mi, .int (nI isz), .int z2_7, .ref mh, .ref mv, .int (nI rk), .long lf, .long lo, .ref ms])), (mk, .inl (cA 0, 4, .inl kf)), (mp, .inl (cA 0, 4, .inl pf)), (me, .inl (cA 0, 4, .inl ef)), (mtb, .inl (cA 0, 52, .inl tbf)), (mx, .inl (cA 0, 256, .inl xsf)), (mn, .inl (cA 0, 4, .inl tkf)), (ms, .inl (cA 0, 40, .inl f2))] H := hP.sub [2, 3, 4, 5, 6, 7, 0, 1] rfl
                have hD9 : va_D A [(mo, .inr (6, [.ref mw, .int (nI cnt), .ref mk, .ref mp, .ref mz, .ref me, .ref mtb, .ref my, .ref mx, .ref mu, .ref mn, .ref mg, .int hf, .int fro, .ref mf, .int (nI fsz), .ref mi, .int (nI isz), .int z2_7, .ref mh, .ref mv, .int (nI rk), .long lf, .long lo, .ref ms])), (mk, .inl (cA 0, 4, .inl kf)), (mp, .inl (cA 0, 4, .inl pf)), (me, .inl (cA 0, 4, .inl ef)), (mtb, .inl (cA 0, 52, .inl tbf)), (mx, .inl (cA 0, 256, .inl xsf)), (mn, .inl (cA 0, 4, .inl tkf)), (ms, .inl (cA 0, 40, .inl f2))] := hD.sub [2, 3, 4, 5, 6, 7, 0, 1] (by decide) rfl
                exact ih_L1 (it + 1) 0 z2_7 (op &&& op) f2 H locs ls ⟨hi_hit, hi_hop, hi_hb01, hi_hrem, hl9, hP9, hD9, hS⟩ hmu9
              · have c_10 : ¬ ((0 : Int32) = 0) := c_10
                exact absurd c_10 (by decide)
            · have c_9 : ¬ ((rs_fi (rs_ms K P seed wN j xsf op (P + tk) (K + P)).1) < 0) := c_9
              exact absurd hneg c_9
          · have c_8 : ¬ ((rs_fi (rs_ms K P seed wN j xsf op (P + tk) (K + P)).1) < 0) := c_8
            obtain ⟨i9, hi9, hi40, hbit9⟩ := rs_ms_some (by omega) c_8
            have hfd : rs_found K P seed wN j xsf (P + tk) op = some (i9, 2) := rs_found_b efk hi9
            have e9i : rs_fi (rs_ms K P seed wN j xsf op (P + tk) (K + P)).1 = nI i9 := by rw [hi9]; rfl
            rw [e9i] at hl
            refine lv_aload_n hx hb dX6_peel_157 rfl (lv_at hl 5 rfl) ?_
            refine va_get (D := (dC, dI)) (ci := 6) (v := .ref ms) (C := RX6) (T := TX6) (N := 25) hx hb hts inX6 hown hK hP 2 rfl rfl 24 (by decide) hk_2 (fun _ h9 => h9) rfl dX6_peel_158 ?_
            refine lv_iload hx hb dX6_peel_161 (lv_at hl 0 rfl) ?_
            refine lv_iconst (v := 2) hx hb dX6_peel_163 (by decide) ?_
            refine va_iast (D := (dC, dI)) hx hb hK hP hD hS 1 0 rfl rfl (vp_in_nI (by omega) (by omega)) dX6_peel_164 (fun H locs hP hD hS => ?_)
            rw [nI_clamp (by omega : i9 < 2 ^ 31)] at hP hD
            have hP : va_P (dC, dI) vwCl [(mn, .inl (cA 0, 4, .inl tkf)), (ms, .inl (cA 0, 40, .inl (upd f2 i9 2))), (mo, .inr (6, [.ref mw, .int (nI cnt), .ref mk, .ref mp, .ref mz, .ref me, .ref mtb, .ref my, .ref mx, .ref mu, .ref mn, .ref mg, .int hf, .int fro, .ref mf, .int (nI fsz), .ref mi, .int (nI isz), .int z2_7, .ref mh, .ref mv, .int (nI rk), .long lf, .long lo, .ref ms])), (mk, .inl (cA 0, 4, .inl kf)), (mp, .inl (cA 0, 4, .inl pf)), (me, .inl (cA 0, 4, .inl ef)), (mtb, .inl (cA 0, 52, .inl tbf)), (mx, .inl (cA 0, 256, .inl xsf))] H := hP
            have hD : va_D A [(mn, .inl (cA 0, 4, .inl tkf)), (ms, .inl (cA 0, 40, .inl (upd f2 i9 2))), (mo, .inr (6, [.ref mw, .int (nI cnt), .ref mk, .ref mp, .ref mz, .ref me, .ref mtb, .ref my, .ref mx, .ref mu, .ref mn, .ref mg, .int hf, .int fro, .ref mf, .int (nI fsz), .ref mi, .int (nI isz), .int z2_7, .ref mh, .ref mv, .int (nI rk), .long lf, .long lo, .ref ms])), (mk, .inl (cA 0, 4, .inl kf)), (mp, .inl (cA 0, 4, .inl pf)), (me, .inl (cA 0, 4, .inl ef)), (mtb, .inl (cA 0, 52, .inl tbf)), (mx, .inl (cA 0, 256, .inl xsf))] := hD
            refine lv_iload hx hb dX6_peel_165 (lv_at hl 0 rfl) ?_
            refine lv_if_lt (tgt := 174) hx hb dX6_peel_167 (by decide) (fun c_11 => ?_) (fun c_11 => ?_)
            · have c_11 : (nI i9) < 0 := c_11
              exact absurd c_11 (nI_pos (by omega))
            · have c_11 : ¬ ((nI i9) < 0) := c_11
              refine lv_iconst (v := 1) hx hb dX6_peel_170 (by decide) ?_
              refine lv_goto (tgt := 175) hx hb dX6_peel_171 (by decide) ?_
              refine lv_istore (lv' := [(4, .int 1), (7, .int (nI i9)), (6, .int (nI q)), (5, .int (nI (P + tk))), (2, .long op), (0, .ref mo), (1, .int (nI j))]) hx hb dX6_peel_175 hl (by decide) rfl (fun ls hl => ?_)
              refine lv_lload_n hx hb dX6_peel_177 rfl (lv_at hl 4 rfl) ?_
              refine lv_iload hx hb dX6_peel_178 (lv_at hl 0 rfl) ?_
              refine lv_if_eq (tgt := 194) hx hb dX6_peel_180 (by decide) (fun c_12 => ?_) (fun c_12 => ?_)
              · have c_12 : (1 : Int32) = 0 := c_12
                exact absurd c_12 (by decide)
              · have c_12 : ¬ ((1 : Int32) = 0) := c_12
                refine lv_lconst (v := 1) hx hb dX6_peel_183 (by decide) ?_
                refine lv_iload hx hb dX6_peel_184 (lv_at hl 1 rfl) ?_
                refine lv_lshl (v := jv_lshl 1 (nI i9)) hx hb dX6_peel_186 rfl ?_
                refine lv_ldc2 (v := (-1)) hx hb hown hk_3 dX6_peel_187 ?_
                refine lv_lxor hx hb dX6_peel_190 ?_
                refine lv_goto (tgt := 195) hx hb dX6_peel_191 (by decide) ?_
                refine lv_land hx hb dX6_peel_195 ?_
                refine lv_lstore_n (lv' := [(2, .long (op &&& ((jv_lshl 1 (nI i9)) ^^^ (-1)))), (4, .int 1), (7, .int (nI i9)), (6, .int (nI q)), (5, .int (nI (P + tk))), (0, .ref mo), (1, .int (nI j))]) hx hb dX6_peel_196 rfl hl (by decide) rfl (fun ls hl => ?_)
                refine lv_goto (tgt := 37) hx hb dX6_peel_197 (by decide) ?_
                have hit9 : it + 1 ≤ 41 := by omega
                have hop9 := rs_cb_del (it := it) hbit9 (by omega) hop1
                have hrem9 := (rs_pl_s hfd (by omega : it ≤ 40) (f := f2)).symm.trans hrem
                have hmu9 : (if (1 : Int32) = 0 then 0 else 42 - (it + 1)) < (if b1 = 0 then 0 else 42 - it) := by rw [if_neg hb0, if_neg (by decide)]; omega
                have hi_hit : (it + 1) ≤ 41 := (by first | omega | exact hit9)
                have hi_hop : rs_cb (op &&& ((jv_lshl 1 (nI i9)) ^^^ (-1))) 40 + (it + 1) = K + P ∨ (1 : Int32) = 0 := (by first | exact Or.inr rfl | exact Or.inl hop9)
                have hi_hb01 : (1 : Int32) = 0 ∨ (1 : Int32) = 1 := (by first | exact Or.inl rfl | exact Or.inr rfl)
                have hi_hrem : (if (1 : Int32) = 0 then (upd f2 i9 2) else rs_pl K P seed wN j xsf (P + tk) (41 - (it + 1)) (op &&& ((jv_lshl 1 (nI i9)) ^^^ (-1))) (upd f2 i9 2)) = rs_pl K P seed wN j xsf (P + tk) 41 (jv_lshl 1 (nI (K + P)) - 1) (rs_clr sts 40) := (hrem9)
                have hl9 : lv_has ls 10 [(4, .int 1), (2, .long (op &&& ((jv_lshl 1 (nI i9)) ^^^ (-1)))), (0, .ref mo), (1, .int (nI j))] := lv_sub hl [1, 0, 5, 6] rfl
                have hP9 : va_P (dC, dI) vwCl [(mo, .inr (6, [.ref mw, .int (nI cnt), .ref mk, .ref mp, .ref mz, .ref me, .ref mtb, .ref my, .ref mx, .ref mu, .ref mn, .ref mg, .int hf, .int fro, .ref mf, .int (nI fsz), .ref mi, .int (nI isz), .int z2_7, .ref mh, .ref mv, .int (nI rk), .long lf, .long lo, .ref ms])), (mk, .inl (cA 0, 4, .inl kf)), (mp, .inl (cA 0, 4, .inl pf)), (me, .inl (cA 0, 4, .inl ef)), (mtb, .inl (cA 0, 52, .inl tbf)), (mx, .inl (cA 0, 256, .inl xsf)), (mn, .inl (cA 0, 4, .inl tkf)), (ms, .inl (cA 0, 40, .inl (upd f2 i9 2)))] H := hP.sub [2, 3, 4, 5, 6, 7, 0, 1] rfl
                have hD9 : va_D A [(mo, .inr (6, [.ref mw, .int (nI cnt), .ref mk, .ref mp, .ref mz, .ref me, .ref mtb, .ref my, .ref mx, .ref mu, .ref mn, .ref mg, .int hf, .int fro, .ref mf, .int (nI fsz), .ref mi, .int (nI isz), .int z2_7, .ref mh, .ref mv, .int (nI rk), .long lf, .long lo, .ref ms])), (mk, .inl (cA 0, 4, .inl kf)), (mp, .inl (cA 0, 4, .inl pf)), (me, .inl (cA 0, 4, .inl ef)), (mtb, .inl (cA 0, 52, .inl tbf)), (mx, .inl (cA 0, 256, .inl xsf)), (mn, .inl (cA 0, 4, .inl tkf)), (ms, .inl (cA 0, 40, .inl (upd f2 i9 2)))] := hD.sub [2, 3, 4, 5, 6, 7, 0, 1] (by decide) rfl
                exact ih_L1 (it + 1) 1 z2_7 (op &&& ((jv_lshl 1 (nI i9)) ^^^ (-1))) (upd f2 i9 2) H locs ls ⟨hi_hit, hi_hop, hi_hb01, hi_hrem, hl9, hP9, hD9, hS⟩ hmu9
        · have c_5 : ¬ ((nI (P + tk)) ≤ (nI q)) := c_5
          exact absurd (nI_le (a := P + tk) (b := q) (by omega) (by omega)) c_5
      · have c_4 : ¬ ((nI (P + tk)) ≤ (nI q)) := c_4
        have hk9 : q < (P + tk) := (ku_nle (a := (P + tk)) (b := q) (by omega) (by omega)).mp c_4
        refine lv_aload_n hx hb dX6_peel_67 rfl (lv_at hl 4 rfl) ?_
        refine lv_iload_n hx hb dX6_peel_68 rfl (lv_at hl 5 rfl) ?_
        refine lv_iload hx hb dX6_peel_69 (lv_at hl 0 rfl) ?_
        have hPc := hP.sub (ws' := [(mo, .inr (6, [.ref mw, .int (nI cnt), .ref mk, .ref mp, .ref mz, .ref me, .ref mtb, .ref my, .ref mx, .ref mu, .ref mn, .ref mg, .int hf, .int fro, .ref mf, .int (nI fsz), .ref mi, .int (nI isz), .int z3, .ref mh, .ref mv, .int (nI rk), .long lf, .long lo, .ref ms])), (mk, .inl (cA 0, 4, .inl kf)), (mp, .inl (cA 0, 4, .inl pf)), (me, .inl (cA 0, 4, .inl ef)), (mtb, .inl (cA 0, 52, .inl tbf)), (mx, .inl (cA 0, 256, .inl xsf))]) [0, 1, 2, 3, 4, 5] rfl
        have hDc := hD.sub (ws' := [(mo, .inr (6, [.ref mw, .int (nI cnt), .ref mk, .ref mp, .ref mz, .ref me, .ref mtb, .ref my, .ref mx, .ref mu, .ref mn, .ref mg, .int hf, .int fro, .ref mf, .int (nI fsz), .ref mi, .int (nI isz), .int z3, .ref mh, .ref mv, .int (nI rk), .long lf, .long lo, .ref ms])), (mk, .inl (cA 0, 4, .inl kf)), (mp, .inl (cA 0, 4, .inl pf)), (me, .inl (cA 0, 4, .inl ef)), (mtb, .inl (cA 0, 52, .inl tbf)), (mx, .inl (cA 0, 256, .inl xsf))]) [0, 1, 2, 3, 4, 5] (by decide) rfl
        have hFc := va_free (wc := [(mo, .inr (6, [.ref mw, .int (nI cnt), .ref mk, .ref mp, .ref mz, .ref me, .ref mtb, .ref my, .ref mx, .ref mu, .ref mn, .ref mg, .int hf, .int fro, .ref mf, .int (nI fsz), .ref mi, .int (nI isz), .int z3, .ref mh, .ref mv, .int (nI rk), .long lf, .long lo, .ref ms])), (mk, .inl (cA 0, 4, .inl kf)), (mp, .inl (cA 0, 4, .inl pf)), (me, .inl (cA 0, 4, .inl ef)), (mtb, .inl (cA 0, 52, .inl tbf)), (mx, .inl (cA 0, 256, .inl xsf))]) hD hS hA [0, 1, 2, 3, 4, 5] rfl
        refine va_calll (va_runV (As := [.int (nI j), .int (nI q)]) (rest := []) ⟨hx, hb, hml, hown, hts⟩ (c_M_rowAt l dC dI cA H.size mo mw mk mp mz me mtb my mx mu mn mg mf mi mh mv ms cnt hf fro fsz isz z3 rk lf lo kf pf ef tbf xsf j K P seed wN q (by first | assumption | omega) (by first | assumption | omega) (by first | assumption | omega) (by first | assumption | omega) (by first | assumption | omega) (by first | assumption | omega) (by first | assumption | omega) (by first | assumption | omega) (by first | assumption | omega) (by first | assumption | omega) (by first | assumption | omega)) (cwV 2 hts (kg_V tb_376 tb_377 tb_378 tb_318 tb_375) rfl rfl rfl (by decide +kernel) ⟨Nat.le_of_ble_eq_true rfl, Nat.le_of_ble_eq_true rfl⟩) (kpv_rw hK hN hPc hDc (ci := 6) (q0 := 0) rfl rfl rfl) rfl rfl hl.1 rfl (lv_room (Nat.le_of_ble_eq_true rfl)) dX6_peel_71 ⟨Nat.le_of_ble_eq_true rfl, Nat.le_of_ble_eq_true rfl⟩) hS (fun q _ h => hFc q h) hFc (fun r_13 u9 t9 H1 locs ht9 hvm9 hr_13 hB hz1 hk1 hS => ?_)
        obtain ⟨z2_14, rfl⟩ : ∃ z, z = u9 := ⟨_, rfl⟩
        obtain ⟨hP1, hD1⟩ := hB
        rw [ht9] at hP1
        obtain ⟨hP, hD⟩ := va_join (wr := [(mn, .inl (cA 0, 4, .inl tkf)), (ms, .inl (cA 0, 40, .inl f2))]) (w1 := [(mo, .inr (6, [.ref mw, .int (nI cnt), .ref mk, .ref mp, .ref mz, .ref me, .ref mtb, .ref my, .ref mx, .ref mu, .ref mn, .ref mg, .int hf, .int fro, .ref mf, .int (nI fsz), .ref mi, .int (nI isz), .int z2_14, .ref mh, .ref mv, .int (nI rk), .long lf, .long lo, .ref ms])), (mk, .inl (cA 0, 4, .inl kf)), (mp, .inl (cA 0, 4, .inl pf)), (me, .inl (cA 0, 4, .inl ef)), (mtb, .inl (cA 0, 52, .inl tbf)), (mx, .inl (cA 0, 256, .inl xsf))]) hP hD [0, 1, 2, 3, 4, 5] [6, 7] rfl rfl (by decide) (by decide) hk1 hFc hP1 hD1
        generalize H1 = H at hP hS ⊢
        have hP : va_P (dC, dI) vwCl [(mn, .inl (cA 0, 4, .inl tkf)), (ms, .inl (cA 0, 40, .inl f2)), (mo, .inr (6, [.ref mw, .int (nI cnt), .ref mk, .ref mp, .ref mz, .ref me, .ref mtb, .ref my, .ref mx, .ref mu, .ref mn, .ref mg, .int hf, .int fro, .ref mf, .int (nI fsz), .ref mi, .int (nI isz), .int z2_14, .ref mh, .ref mv, .int (nI rk), .long lf, .long lo, .ref ms])), (mk, .inl (cA 0, 4, .inl kf)), (mp, .inl (cA 0, 4, .inl pf)), (me, .inl (cA 0, 4, .inl ef)), (mtb, .inl (cA 0, 52, .inl tbf)), (mx, .inl (cA 0, 256, .inl xsf))] H := hP
        have hD : va_D A [(mn, .inl (cA 0, 4, .inl tkf)), (ms, .inl (cA 0, 40, .inl f2)), (mo, .inr (6, [.ref mw, .int (nI cnt), .ref mk, .ref mp, .ref mz, .ref me, .ref mtb, .ref my, .ref mx, .ref mu, .ref mn, .ref mg, .int hf, .int fro, .ref mf, .int (nI fsz), .ref mi, .int (nI isz), .int z2_14, .ref mh, .ref mv, .int (nI rk), .long lf, .long lo, .ref ms])), (mk, .inl (cA 0, 4, .inl kf)), (mp, .inl (cA 0, 4, .inl pf)), (me, .inl (cA 0, 4, .inl ef)), (mtb, .inl (cA 0, 52, .inl tbf)), (mx, .inl (cA 0, 256, .inl xsf))] := hD
        refine kt_l (y := rs_rowat K P seed wN j xsf q) hr_13 ?_
        refine lv_lload_n hx hb dX6_peel_74 rfl (lv_at hl 3 rfl) ?_
        refine lv_land hx hb dX6_peel_75 ?_
        have hPc := hP.sub (ws' := []) [] rfl
        refine kq_csi (va_runS (As := [.long ((rs_rowat K P seed wN j xsf q) &&& op)]) (rest := []) ⟨hx, hb, hml, hown, hts⟩ (c_M_count l dC dI cA ((rs_rowat K P seed wN j xsf q) &&& op)) (va_cwS 1 hts (kg_S tb_418 tb_419 tb_318 tb_417) rfl rfl rfl (by decide +kernel) ⟨Nat.le_of_ble_eq_true rfl, Nat.le_of_ble_eq_true rfl⟩) (kps_ro hK hN hPc) rfl rfl hl.1 rfl (lv_room (Nat.le_of_ble_eq_true rfl)) dX6_peel_76 ⟨Nat.le_of_ble_eq_true rfl, Nat.le_of_ble_eq_true rfl⟩) (fun r_15 hr_15 => ?_)
        refine kt_i (y := nI (rs_cnt ((rs_rowat K P seed wN j xsf q) &&& op) 40)) hr_15 ?_
        refine lv_iconst (v := 1) hx hb dX6_peel_79 (by decide) ?_
        refine lv_icmp_eq (tgt := 89) hx hb dX6_peel_80 (by decide) (fun c_16 => ?_) (fun c_16 => ?_)
        · have c_16 : (nI (rs_cnt ((rs_rowat K P seed wN j xsf q) &&& op) 40)) = 1 := c_16
          have hc1 := c_16
          have efk : rs_fk K P seed wN j xsf op (P + tk) 0 = q := by rw [← hrem2, show P + tk - q = (P + tk - (q + 1)) + 1 from (by omega)]; exact if_pos hc1
          refine lv_iconst (v := (-1)) hx hb dX6_peel_89 (by decide) ?_
          refine lv_istore (lv' := [(7, .int (-1)), (6, .int (nI q)), (5, .int (nI (P + tk))), (4, .int b1), (2, .long op), (0, .ref mo), (1, .int (nI j))]) hx hb dX6_peel_90 hl (by decide) rfl (fun ls hl => ?_)
          refine lv_iload hx hb dX6_peel_92 (lv_at hl 1 rfl) ?_
          refine lv_iload hx hb dX6_peel_94 (lv_at hl 2 rfl) ?_
          refine lv_icmp_ge (tgt := 142) hx hb dX6_peel_96 (by decide) (fun c_17 => ?_) (fun c_17 => ?_)
          · have c_17 : (nI (P + tk)) ≤ (nI q) := c_17
            exact absurd ((ku_le (a := P + tk) (b := q) (by omega) (by omega)).mp c_17) (by omega)
          · have c_17 : ¬ ((nI (P + tk)) ≤ (nI q)) := c_17
            refine lv_aload_n hx hb dX6_peel_99 rfl (lv_at hl 5 rfl) ?_
            refine lv_iload_n hx hb dX6_peel_100 rfl (lv_at hl 6 rfl) ?_
            refine lv_iload hx hb dX6_peel_101 (lv_at hl 1 rfl) ?_
            have hPc := hP.sub (ws' := [(mo, .inr (6, [.ref mw, .int (nI cnt), .ref mk, .ref mp, .ref mz, .ref me, .ref mtb, .ref my, .ref mx, .ref mu, .ref mn, .ref mg, .int hf, .int fro, .ref mf, .int (nI fsz), .ref mi, .int (nI isz), .int z2_14, .ref mh, .ref mv, .int (nI rk), .long lf, .long lo, .ref ms])), (mk, .inl (cA 0, 4, .inl kf)), (mp, .inl (cA 0, 4, .inl pf)), (me, .inl (cA 0, 4, .inl ef)), (mtb, .inl (cA 0, 52, .inl tbf)), (mx, .inl (cA 0, 256, .inl xsf))]) [2, 3, 4, 5, 6, 7] rfl
            have hDc := hD.sub (ws' := [(mo, .inr (6, [.ref mw, .int (nI cnt), .ref mk, .ref mp, .ref mz, .ref me, .ref mtb, .ref my, .ref mx, .ref mu, .ref mn, .ref mg, .int hf, .int fro, .ref mf, .int (nI fsz), .ref mi, .int (nI isz), .int z2_14, .ref mh, .ref mv, .int (nI rk), .long lf, .long lo, .ref ms])), (mk, .inl (cA 0, 4, .inl kf)), (mp, .inl (cA 0, 4, .inl pf)), (me, .inl (cA 0, 4, .inl ef)), (mtb, .inl (cA 0, 52, .inl tbf)), (mx, .inl (cA 0, 256, .inl xsf))]) [2, 3, 4, 5, 6, 7] (by decide) rfl
            have hFc := va_free (wc := [(mo, .inr (6, [.ref mw, .int (nI cnt), .ref mk, .ref mp, .ref mz, .ref me, .ref mtb, .ref my, .ref mx, .ref mu, .ref mn, .ref mg, .int hf, .int fro, .ref mf, .int (nI fsz), .ref mi, .int (nI isz), .int z2_14, .ref mh, .ref mv, .int (nI rk), .long lf, .long lo, .ref ms])), (mk, .inl (cA 0, 4, .inl kf)), (mp, .inl (cA 0, 4, .inl pf)), (me, .inl (cA 0, 4, .inl ef)), (mtb, .inl (cA 0, 52, .inl tbf)), (mx, .inl (cA 0, 256, .inl xsf))]) hD hS hA [2, 3, 4, 5, 6, 7] rfl
            refine va_calll (va_runV (As := [.int (nI j), .int (nI q)]) (rest := []) ⟨hx, hb, hml, hown, hts⟩ (c_M_rowAt l dC dI cA H.size mo mw mk mp mz me mtb my mx mu mn mg mf mi mh mv ms cnt hf fro fsz isz z2_14 rk lf lo kf pf ef tbf xsf j K P seed wN q (by first | assumption | omega) (by first | assumption | omega) (by first | assumption | omega) (by first | assumption | omega) (by first | assumption | omega) (by first | assumption | omega) (by first | assumption | omega) (by first | assumption | omega) (by first | assumption | omega) (by first | assumption | omega) (by first | assumption | omega)) (cwV 2 hts (kg_V tb_376 tb_377 tb_378 tb_318 tb_375) rfl rfl rfl (by decide +kernel) ⟨Nat.le_of_ble_eq_true rfl, Nat.le_of_ble_eq_true rfl⟩) (kpv_rw hK hN hPc hDc (ci := 6) (q0 := 0) rfl rfl rfl) rfl rfl hl.1 rfl (lv_room (Nat.le_of_ble_eq_true rfl)) dX6_peel_103 ⟨Nat.le_of_ble_eq_true rfl, Nat.le_of_ble_eq_true rfl⟩) hS (fun q _ h => hFc q h) hFc (fun r_18 u9 t9 H1 locs ht9 hvm9 hr_18 hB hz1 hk1 hS => ?_)
            obtain ⟨z2_19, rfl⟩ : ∃ z, z = u9 := ⟨_, rfl⟩
            obtain ⟨hP1, hD1⟩ := hB
            rw [ht9] at hP1
            obtain ⟨hP, hD⟩ := va_join (wr := [(mn, .inl (cA 0, 4, .inl tkf)), (ms, .inl (cA 0, 40, .inl f2))]) (w1 := [(mo, .inr (6, [.ref mw, .int (nI cnt), .ref mk, .ref mp, .ref mz, .ref me, .ref mtb, .ref my, .ref mx, .ref mu, .ref mn, .ref mg, .int hf, .int fro, .ref mf, .int (nI fsz), .ref mi, .int (nI isz), .int z2_19, .ref mh, .ref mv, .int (nI rk), .long lf, .long lo, .ref ms])), (mk, .inl (cA 0, 4, .inl kf)), (mp, .inl (cA 0, 4, .inl pf)), (me, .inl (cA 0, 4, .inl ef)), (mtb, .inl (cA 0, 52, .inl tbf)), (mx, .inl (cA 0, 256, .inl xsf))]) hP hD [2, 3, 4, 5, 6, 7] [0, 1] rfl rfl (by decide) (by decide) hk1 hFc hP1 hD1
            generalize H1 = H at hP hS ⊢
            have hP : va_P (dC, dI) vwCl [(mn, .inl (cA 0, 4, .inl tkf)), (ms, .inl (cA 0, 40, .inl f2)), (mo, .inr (6, [.ref mw, .int (nI cnt), .ref mk, .ref mp, .ref mz, .ref me, .ref mtb, .ref my, .ref mx, .ref mu, .ref mn, .ref mg, .int hf, .int fro, .ref mf, .int (nI fsz), .ref mi, .int (nI isz), .int z2_19, .ref mh, .ref mv, .int (nI rk), .long lf, .long lo, .ref ms])), (mk, .inl (cA 0, 4, .inl kf)), (mp, .inl (cA 0, 4, .inl pf)), (me, .inl (cA 0, 4, .inl ef)), (mtb, .inl (cA 0, 52, .inl tbf)), (mx, .inl (cA 0, 256, .inl xsf))] H := hP
            have hD : va_D A [(mn, .inl (cA 0, 4, .inl tkf)), (ms, .inl (cA 0, 40, .inl f2)), (mo, .inr (6, [.ref mw, .int (nI cnt), .ref mk, .ref mp, .ref mz, .ref me, .ref mtb, .ref my, .ref mx, .ref mu, .ref mn, .ref mg, .int hf, .int fro, .ref mf, .int (nI fsz), .ref mi, .int (nI isz), .int z2_19, .ref mh, .ref mv, .int (nI rk), .long lf, .long lo, .ref ms])), (mk, .inl (cA 0, 4, .inl kf)), (mp, .inl (cA 0, 4, .inl pf)), (me, .inl (cA 0, 4, .inl ef)), (mtb, .inl (cA 0, 52, .inl tbf)), (mx, .inl (cA 0, 256, .inl xsf))] := hD
            refine kt_l (y := rs_rowat K P seed wN j xsf q) hr_18 ?_
            refine lv_lload_n hx hb dX6_peel_106 rfl (lv_at hl 4 rfl) ?_
            refine lv_land hx hb dX6_peel_107 ?_
            refine lv_lstore (lv' := [(8, .long ((rs_rowat K P seed wN j xsf q) &&& op)), (7, .int (-1)), (6, .int (nI q)), (5, .int (nI (P + tk))), (4, .int b1), (2, .long op), (0, .ref mo), (1, .int (nI j))]) hx hb dX6_peel_108 hl (by decide) rfl (fun ls hl => ?_)
            refine lv_iconst (v := 0) hx hb dX6_peel_110 (by decide) ?_
            refine lv_istore (lv' := [(7, .int 0), (8, .long ((rs_rowat K P seed wN j xsf q) &&& op)), (6, .int (nI q)), (5, .int (nI (P + tk))), (4, .int b1), (2, .long op), (0, .ref mo), (1, .int (nI j))]) hx hb dX6_peel_111 hl (by decide) rfl (fun ls hl => ?_)
            have hi_hf9 : 0 ≤ 40 := (by omega)
            have hi_hrem3 : rs_lo (rs_rowat K P seed wN j xsf q &&& op) (40 - 0) 0 = rs_lo (rs_rowat K P seed wN j xsf q &&& op) 40 0 := rfl
            have hl9 : lv_has ls 10 [(7, .int (nI 0)), (8, .long ((rs_rowat K P seed wN j xsf q) &&& op)), (6, .int (nI q)), (5, .int (nI (P + tk))), (4, .int b1), (2, .long op), (0, .ref mo), (1, .int (nI j))] := lv_sub hl [0, 1, 2, 3, 4, 5, 6, 7] rfl
            refine k_loop1 (I := fun (f9 : Nat) (H : Heap) (locs : List Loc) (ls : Array Slot) => (f9 ≤ 40) ∧ (rs_lo (rs_rowat K P seed wN j xsf q &&& op) (40 - f9) f9 = rs_lo (rs_rowat K P seed wN j xsf q &&& op) 40 0) ∧ lv_has ls 10 [(7, .int (nI f9)), (8, .long ((rs_rowat K P seed wN j xsf q) &&& op)), (6, .int (nI q)), (5, .int (nI (P + tk))), (4, .int b1), (2, .long op), (0, .ref mo), (1, .int (nI j))] ∧ va_P (dC, dI) vwCl [(mn, .inl (cA 0, 4, .inl tkf)), (ms, .inl (cA 0, 40, .inl f2)), (mo, .inr (6, [.ref mw, .int (nI cnt), .ref mk, .ref mp, .ref mz, .ref me, .ref mtb, .ref my, .ref mx, .ref mu, .ref mn, .ref mg, .int hf, .int fro, .ref mf, .int (nI fsz), .ref mi, .int (nI isz), .int z2_19, .ref mh, .ref mv, .int (nI rk), .long lf, .long lo, .ref ms])), (mk, .inl (cA 0, 4, .inl kf)), (mp, .inl (cA 0, 4, .inl pf)), (me, .inl (cA 0, 4, .inl ef)), (mtb, .inl (cA 0, 52, .inl tbf)), (mx, .inl (cA 0, 256, .inl xsf))] H ∧ va_D A [(mn, .inl (cA 0, 4, .inl tkf)), (ms, .inl (cA 0, 40, .inl f2)), (mo, .inr (6, [.ref mw, .int (nI cnt), .ref mk, .ref mp, .ref mz, .ref me, .ref mtb, .ref my, .ref mx, .ref mu, .ref mn, .ref mg, .int hf, .int fro, .ref mf, .int (nI fsz), .ref mi, .int (nI isz), .int z2_19, .ref mh, .ref mv, .int (nI rk), .long lf, .long lo, .ref ms])), (mk, .inl (cA 0, 4, .inl kf)), (mp, .inl (cA 0, 4, .inl pf)), (me, .inl (cA 0, 4, .inl ef)), (mtb, .inl (cA 0, 52, .inl tbf)), (mx, .inl (cA 0, 256, .inl xsf))] ∧ va_S A s.heap H locs) (μ := fun f9 => 40 - f9) ?_ 0 ⟨hi_hf9, hi_hrem3, hl9, hP, hD, hS⟩
            intro f9 H locs ls hI9 ih_L3
            obtain ⟨hf9, hrem3, hl, hP, hD, hS⟩ := hI9
            have hlo := rs_lo_cnt hc1
            refine lv_lload hx hb dX6_peel_113 (lv_at hl 1 rfl) ?_
            refine lv_iload hx hb dX6_peel_115 (lv_at hl 0 rfl) ?_
            refine lv_lshr (v := jv_lshr ((rs_rowat K P seed wN j xsf q) &&& op) (nI f9)) hx hb dX6_peel_117 rfl ?_
            refine lv_lconst (v := 1) hx hb dX6_peel_118 (by decide) ?_
            refine lv_land hx hb dX6_peel_119 ?_
            refine lv_lconst (v := 0) hx hb dX6_peel_120 (by decide) ?_
            refine W.lcmp hx hb dX6_peel_121 ?_
            refine lv_if_ne (tgt := 131) hx hb dX6_peel_122 (by decide) (fun c_20 => ?_) (fun c_20 => ?_)
            · have c_20 : ¬ ((lg_cmp ((jv_lshr ((rs_rowat K P seed wN j xsf q) &&& op) (nI f9)) &&& 1) 0) = 0) := c_20
              have hz5 := c_20
              have elo : rs_lo (rs_rowat K P seed wN j xsf q &&& op) 40 0 = f9 := rs_lo_end hrem3 (Or.inr hz5)
              have hf8 : f9 < 40 := by omega
              have hbit9 : ¬ sp_bit op (nI f9) = 0 := rs_bit_and (by omega) hz5
              have hfd : rs_found K P seed wN j xsf (P + tk) op = some (f9, 1) := rs_found_a efk (by omega) elo
              refine lv_aload_n hx hb dX6_peel_131 rfl (lv_at hl 6 rfl) ?_
              refine va_get (D := (dC, dI)) (ci := 6) (v := .ref ms) (C := RX6) (T := TX6) (N := 25) hx hb hts inX6 hown hK hP 2 rfl rfl 24 (by decide) hk_2 (fun _ h9 => h9) rfl dX6_peel_132 ?_
              refine lv_iload hx hb dX6_peel_135 (lv_at hl 0 rfl) ?_
              refine lv_iconst (v := 1) hx hb dX6_peel_137 (by decide) ?_
              refine va_iast (D := (dC, dI)) hx hb hK hP hD hS 1 0 rfl rfl (vp_in_nI (by omega) (by omega)) dX6_peel_138 (fun H locs hP hD hS => ?_)
              rw [nI_clamp (by omega : f9 < 2 ^ 31)] at hP hD
              have hP : va_P (dC, dI) vwCl [(mn, .inl (cA 0, 4, .inl tkf)), (ms, .inl (cA 0, 40, .inl (upd f2 f9 1))), (mo, .inr (6, [.ref mw, .int (nI cnt), .ref mk, .ref mp, .ref mz, .ref me, .ref mtb, .ref my, .ref mx, .ref mu, .ref mn, .ref mg, .int hf, .int fro, .ref mf, .int (nI fsz), .ref mi, .int (nI isz), .int z2_19, .ref mh, .ref mv, .int (nI rk), .long lf, .long lo, .ref ms])), (mk, .inl (cA 0, 4, .inl kf)), (mp, .inl (cA 0, 4, .inl pf)), (me, .inl (cA 0, 4, .inl ef)), (mtb, .inl (cA 0, 52, .inl tbf)), (mx, .inl (cA 0, 256, .inl xsf))] H := hP
              have hD : va_D A [(mn, .inl (cA 0, 4, .inl tkf)), (ms, .inl (cA 0, 40, .inl (upd f2 f9 1))), (mo, .inr (6, [.ref mw, .int (nI cnt), .ref mk, .ref mp, .ref mz, .ref me, .ref mtb, .ref my, .ref mx, .ref mu, .ref mn, .ref mg, .int hf, .int fro, .ref mf, .int (nI fsz), .ref mi, .int (nI isz), .int z2_19, .ref mh, .ref mv, .int (nI rk), .long lf, .long lo, .ref ms])), (mk, .inl (cA 0, 4, .inl kf)), (mp, .inl (cA 0, 4, .inl pf)), (me, .inl (cA 0, 4, .inl ef)), (mtb, .inl (cA 0, 52, .inl tbf)), (mx, .inl (cA 0, 256, .inl xsf))] := hD
              refine lv_goto (tgt := 165) hx hb dX6_peel_139 (by decide) ?_
              refine lv_iload hx hb dX6_peel_165 (lv_at hl 0 rfl) ?_
              refine lv_if_lt (tgt := 174) hx hb dX6_peel_167 (by decide) (fun c_21 => ?_) (fun c_21 => ?_)
              · have c_21 : (nI f9) < 0 := c_21
                exact absurd c_21 (nI_pos (by omega))
              · have c_21 : ¬ ((nI f9) < 0) := c_21
                refine lv_iconst (v := 1) hx hb dX6_peel_170 (by decide) ?_
                refine lv_goto (tgt := 175) hx hb dX6_peel_171 (by decide) ?_
                refine lv_istore (lv' := [(4, .int 1), (7, .int (nI f9)), (8, .long ((rs_rowat K P seed wN j xsf q) &&& op)), (6, .int (nI q)), (5, .int (nI (P + tk))), (2, .long op), (0, .ref mo), (1, .int (nI j))]) hx hb dX6_peel_175 hl (by decide) rfl (fun ls hl => ?_)
                refine lv_lload_n hx hb dX6_peel_177 rfl (lv_at hl 5 rfl) ?_
                refine lv_iload hx hb dX6_peel_178 (lv_at hl 0 rfl) ?_
                refine lv_if_eq (tgt := 194) hx hb dX6_peel_180 (by decide) (fun c_22 => ?_) (fun c_22 => ?_)
                · have c_22 : (1 : Int32) = 0 := c_22
                  exact absurd c_22 (by decide)
                · have c_22 : ¬ ((1 : Int32) = 0) := c_22
                  refine lv_lconst (v := 1) hx hb dX6_peel_183 (by decide) ?_
                  refine lv_iload hx hb dX6_peel_184 (lv_at hl 1 rfl) ?_
                  refine lv_lshl (v := jv_lshl 1 (nI f9)) hx hb dX6_peel_186 rfl ?_
                  refine lv_ldc2 (v := (-1)) hx hb hown hk_3 dX6_peel_187 ?_
                  refine lv_lxor hx hb dX6_peel_190 ?_
                  refine lv_goto (tgt := 195) hx hb dX6_peel_191 (by decide) ?_
                  refine lv_land hx hb dX6_peel_195 ?_
                  refine lv_lstore_n (lv' := [(2, .long (op &&& ((jv_lshl 1 (nI f9)) ^^^ (-1)))), (4, .int 1), (7, .int (nI f9)), (8, .long ((rs_rowat K P seed wN j xsf q) &&& op)), (6, .int (nI q)), (5, .int (nI (P + tk))), (0, .ref mo), (1, .int (nI j))]) hx hb dX6_peel_196 rfl hl (by decide) rfl (fun ls hl => ?_)
                  refine lv_goto (tgt := 37) hx hb dX6_peel_197 (by decide) ?_
                  have hit9 : it + 1 ≤ 41 := by omega
                  have hop9 := rs_cb_del (it := it) hbit9 (by omega) hop1
                  have hrem9 := (rs_pl_s hfd (by omega : it ≤ 40) (f := f2)).symm.trans hrem
                  have hmu9 : (if (1 : Int32) = 0 then 0 else 42 - (it + 1)) < (if b1 = 0 then 0 else 42 - it) := by rw [if_neg hb0, if_neg (by decide)]; omega
                  have hi_hit : (it + 1) ≤ 41 := (by first | omega | exact hit9)
                  have hi_hop : rs_cb (op &&& ((jv_lshl 1 (nI f9)) ^^^ (-1))) 40 + (it + 1) = K + P ∨ (1 : Int32) = 0 := (by first | exact Or.inr rfl | exact Or.inl hop9)
                  have hi_hb01 : (1 : Int32) = 0 ∨ (1 : Int32) = 1 := (by first | exact Or.inl rfl | exact Or.inr rfl)
                  have hi_hrem : (if (1 : Int32) = 0 then (upd f2 f9 1) else rs_pl K P seed wN j xsf (P + tk) (41 - (it + 1)) (op &&& ((jv_lshl 1 (nI f9)) ^^^ (-1))) (upd f2 f9 1)) = rs_pl K P seed wN j xsf (P + tk) 41 (jv_lshl 1 (nI (K + P)) - 1) (rs_clr sts 40) := (hrem9)
                  have hl9 : lv_has ls 10 [(4, .int 1), (2, .long (op &&& ((jv_lshl 1 (nI f9)) ^^^ (-1)))), (0, .ref mo), (1, .int (nI j))] := lv_sub hl [1, 0, 6, 7] rfl
                  have hP9 : va_P (dC, dI) vwCl [(mo, .inr (6, [.ref mw, .int (nI cnt), .ref mk, .ref mp, .ref mz, .ref me, .ref mtb, .ref my, .ref mx, .ref mu, .ref mn, .ref mg, .int hf, .int fro, .ref mf, .int (nI fsz), .ref mi, .int (nI isz), .int z2_19, .ref mh, .ref mv, .int (nI rk), .long lf, .long lo, .ref ms])), (mk, .inl (cA 0, 4, .inl kf)), (mp, .inl (cA 0, 4, .inl pf)), (me, .inl (cA 0, 4, .inl ef)), (mtb, .inl (cA 0, 52, .inl tbf)), (mx, .inl (cA 0, 256, .inl xsf)), (mn, .inl (cA 0, 4, .inl tkf)), (ms, .inl (cA 0, 40, .inl (upd f2 f9 1)))] H := hP.sub [2, 3, 4, 5, 6, 7, 0, 1] rfl
                  have hD9 : va_D A [(mo, .inr (6, [.ref mw, .int (nI cnt), .ref mk, .ref mp, .ref mz, .ref me, .ref mtb, .ref my, .ref mx, .ref mu, .ref mn, .ref mg, .int hf, .int fro, .ref mf, .int (nI fsz), .ref mi, .int (nI isz), .int z2_19, .ref mh, .ref mv, .int (nI rk), .long lf, .long lo, .ref ms])), (mk, .inl (cA 0, 4, .inl kf)), (mp, .inl (cA 0, 4, .inl pf)), (me, .inl (cA 0, 4, .inl ef)), (mtb, .inl (cA 0, 52, .inl tbf)), (mx, .inl (cA 0, 256, .inl xsf)), (mn, .inl (cA 0, 4, .inl tkf)), (ms, .inl (cA 0, 40, .inl (upd f2 f9 1)))] := hD.sub [2, 3, 4, 5, 6, 7, 0, 1] (by decide) rfl
                  exact ih_L1 (it + 1) 1 z2_19 (op &&& ((jv_lshl 1 (nI f9)) ^^^ (-1))) (upd f2 f9 1) H locs ls ⟨hi_hit, hi_hop, hi_hb01, hi_hrem, hl9, hP9, hD9, hS⟩ hmu9
            · have c_20 : (lg_cmp ((jv_lshr ((rs_rowat K P seed wN j xsf q) &&& op) (nI f9)) &&& 1) 0) = 0 := c_20
              have hz5 := c_20
              have hf8 : f9 < 40 := rs_lo_in hf9 hrem3 hlo
              refine lv_iinc (v := nI (f9 + 1)) (lv' := [(7, .int (nI (f9 + 1))), (8, .long ((rs_rowat K P seed wN j xsf q) &&& op)), (6, .int (nI q)), (5, .int (nI (P + tk))), (4, .int b1), (2, .long op), (0, .ref mo), (1, .int (nI j))]) hx hb dX6_peel_125 hl (k := 0) rfl (nI_succ _).symm (by decide) rfl (fun ls hl => ?_)
              refine lv_goto (tgt := 113) hx hb dX6_peel_128 (by decide) ?_
              have hi_hf9 : (f9 + 1) ≤ 40 := (by omega)
              have hi_hrem3 : rs_lo (rs_rowat K P seed wN j xsf q &&& op) (40 - (f9 + 1)) (f9 + 1) = rs_lo (rs_rowat K P seed wN j xsf q &&& op) 40 0 := (by rw [← hrem3, show 40 - f9 = (40 - (f9 + 1)) + 1 from (by omega)]; exact (if_pos hz5).symm)
              have hl9 : lv_has ls 10 [(7, .int (nI (f9 + 1))), (8, .long ((rs_rowat K P seed wN j xsf q) &&& op)), (6, .int (nI q)), (5, .int (nI (P + tk))), (4, .int b1), (2, .long op), (0, .ref mo), (1, .int (nI j))] := lv_sub hl [0, 1, 2, 3, 4, 5, 6, 7] rfl
              have hP9 : va_P (dC, dI) vwCl [(mn, .inl (cA 0, 4, .inl tkf)), (ms, .inl (cA 0, 40, .inl f2)), (mo, .inr (6, [.ref mw, .int (nI cnt), .ref mk, .ref mp, .ref mz, .ref me, .ref mtb, .ref my, .ref mx, .ref mu, .ref mn, .ref mg, .int hf, .int fro, .ref mf, .int (nI fsz), .ref mi, .int (nI isz), .int z2_19, .ref mh, .ref mv, .int (nI rk), .long lf, .long lo, .ref ms])), (mk, .inl (cA 0, 4, .inl kf)), (mp, .inl (cA 0, 4, .inl pf)), (me, .inl (cA 0, 4, .inl ef)), (mtb, .inl (cA 0, 52, .inl tbf)), (mx, .inl (cA 0, 256, .inl xsf))] H := hP
              have hD9 : va_D A [(mn, .inl (cA 0, 4, .inl tkf)), (ms, .inl (cA 0, 40, .inl f2)), (mo, .inr (6, [.ref mw, .int (nI cnt), .ref mk, .ref mp, .ref mz, .ref me, .ref mtb, .ref my, .ref mx, .ref mu, .ref mn, .ref mg, .int hf, .int fro, .ref mf, .int (nI fsz), .ref mi, .int (nI isz), .int z2_19, .ref mh, .ref mv, .int (nI rk), .long lf, .long lo, .ref ms])), (mk, .inl (cA 0, 4, .inl kf)), (mp, .inl (cA 0, 4, .inl pf)), (me, .inl (cA 0, 4, .inl ef)), (mtb, .inl (cA 0, 52, .inl tbf)), (mx, .inl (cA 0, 256, .inl xsf))] := hD
              exact ih_L3 (f9 + 1) H locs ls ⟨hi_hf9, hi_hrem3, hl9, hP9, hD9, hS⟩ (by show 40 - (f9 + 1) < 40 - f9; omega)
        · have c_16 : ¬ ((nI (rs_cnt ((rs_rowat K P seed wN j xsf q) &&& op) 40)) = 1) := c_16
          have hc1 := c_16
          refine lv_iinc (v := nI (q + 1)) (lv' := [(6, .int (nI (q + 1))), (5, .int (nI (P + tk))), (4, .int b1), (2, .long op), (0, .ref mo), (1, .int (nI j))]) hx hb dX6_peel_83 hl (k := 0) rfl (nI_succ _).symm (by decide) rfl (fun ls hl => ?_)
          refine lv_goto (tgt := 60) hx hb dX6_peel_86 (by decide) ?_
          have hi_hq : (q + 1) ≤ P + tk := (by omega)
          have hi_hrem2 : rs_fk K P seed wN j xsf op (P + tk - (q + 1)) (q + 1) = rs_fk K P seed wN j xsf op (P + tk) 0 := (by rw [← hrem2, show P + tk - q = (P + tk - (q + 1)) + 1 from (by omega)]; exact (if_neg hc1).symm)
          have hl9 : lv_has ls 10 [(6, .int (nI (q + 1))), (5, .int (nI (P + tk))), (4, .int b1), (2, .long op), (0, .ref mo), (1, .int (nI j))] := lv_sub hl [0, 1, 2, 3, 4, 5] rfl
          have hP9 : va_P (dC, dI) vwCl [(mo, .inr (6, [.ref mw, .int (nI cnt), .ref mk, .ref mp, .ref mz, .ref me, .ref mtb, .ref my, .ref mx, .ref mu, .ref mn, .ref mg, .int hf, .int fro, .ref mf, .int (nI fsz), .ref mi, .int (nI isz), .int z2_14, .ref mh, .ref mv, .int (nI rk), .long lf, .long lo, .ref ms])), (mk, .inl (cA 0, 4, .inl kf)), (mp, .inl (cA 0, 4, .inl pf)), (me, .inl (cA 0, 4, .inl ef)), (mtb, .inl (cA 0, 52, .inl tbf)), (mx, .inl (cA 0, 256, .inl xsf)), (mn, .inl (cA 0, 4, .inl tkf)), (ms, .inl (cA 0, 40, .inl f2))] H := hP.sub [2, 3, 4, 5, 6, 7, 0, 1] rfl
          have hD9 : va_D A [(mo, .inr (6, [.ref mw, .int (nI cnt), .ref mk, .ref mp, .ref mz, .ref me, .ref mtb, .ref my, .ref mx, .ref mu, .ref mn, .ref mg, .int hf, .int fro, .ref mf, .int (nI fsz), .ref mi, .int (nI isz), .int z2_14, .ref mh, .ref mv, .int (nI rk), .long lf, .long lo, .ref ms])), (mk, .inl (cA 0, 4, .inl kf)), (mp, .inl (cA 0, 4, .inl pf)), (me, .inl (cA 0, 4, .inl ef)), (mtb, .inl (cA 0, 52, .inl tbf)), (mx, .inl (cA 0, 256, .inl xsf)), (mn, .inl (cA 0, 4, .inl tkf)), (ms, .inl (cA 0, 40, .inl f2))] := hD.sub [2, 3, 4, 5, 6, 7, 0, 1] (by decide) rfl
          exact ih_L2 (q + 1) z2_14 H locs ls ⟨hi_hq, hi_hrem2, hl9, hP9, hD9, hS⟩ (by show P + tk - (q + 1) < P + tk - q; omega)
  · have c_2 : ¬ (40 ≤ (nI k)) := c_2
    have hk9 : k < 40 := (ku_nle (a := 40) (b := k) (by omega) (by omega)).mp c_2
    refine lv_aload_n hx hb dX6_peel_20 rfl (lv_at hl 2 rfl) ?_
    refine va_get (D := (dC, dI)) (ci := 6) (v := .ref ms) (C := RX6) (T := TX6) (N := 25) hx hb hts inX6 hown hK hP 0 rfl rfl 24 (by decide) hk_2 (fun _ h9 => h9) rfl dX6_peel_21 ?_
    refine lv_iload hx hb dX6_peel_24 (lv_at hl 0 rfl) ?_
    refine lv_iconst (v := 0) hx hb dX6_peel_26 (by decide) ?_
    refine va_iast (D := (dC, dI)) hx hb hK hP hD hS 7 0 rfl rfl (vp_in_nI (by omega) (by omega)) dX6_peel_27 (fun H locs hP hD hS => ?_)
    rw [nI_clamp (by omega : k < 2 ^ 31)] at hP hD
    have hP : va_P (dC, dI) vwCl [(mo, .inr (6, [.ref mw, .int (nI cnt), .ref mk, .ref mp, .ref mz, .ref me, .ref mtb, .ref my, .ref mx, .ref mu, .ref mn, .ref mg, .int hf, .int fro, .ref mf, .int (nI fsz), .ref mi, .int (nI isz), .int z, .ref mh, .ref mv, .int (nI rk), .long lf, .long lo, .ref ms])), (mk, .inl (cA 0, 4, .inl kf)), (mp, .inl (cA 0, 4, .inl pf)), (me, .inl (cA 0, 4, .inl ef)), (mtb, .inl (cA 0, 52, .inl tbf)), (mx, .inl (cA 0, 256, .inl xsf)), (mn, .inl (cA 0, 4, .inl tkf)), (ms, .inl (cA 0, 40, .inl (upd f1 k 0)))] H := hP
    have hD : va_D A [(mo, .inr (6, [.ref mw, .int (nI cnt), .ref mk, .ref mp, .ref mz, .ref me, .ref mtb, .ref my, .ref mx, .ref mu, .ref mn, .ref mg, .int hf, .int fro, .ref mf, .int (nI fsz), .ref mi, .int (nI isz), .int z, .ref mh, .ref mv, .int (nI rk), .long lf, .long lo, .ref ms])), (mk, .inl (cA 0, 4, .inl kf)), (mp, .inl (cA 0, 4, .inl pf)), (me, .inl (cA 0, 4, .inl ef)), (mtb, .inl (cA 0, 52, .inl tbf)), (mx, .inl (cA 0, 256, .inl xsf)), (mn, .inl (cA 0, 4, .inl tkf)), (ms, .inl (cA 0, 40, .inl (upd f1 k 0)))] := hD
    refine lv_iinc (v := nI (k + 1)) (lv' := [(4, .int (nI (k + 1))), (2, .long ((jv_lshl 1 (nI (K + P))) - 1)), (0, .ref mo), (1, .int (nI j))]) hx hb dX6_peel_28 hl (k := 0) rfl (nI_succ _).symm (by decide) rfl (fun ls hl => ?_)
    refine lv_goto (tgt := 13) hx hb dX6_peel_31 (by decide) ?_
    have hi_hk : (k + 1) ≤ 40 := (by omega)
    have hi_h1 : (upd f1 k 0) = rs_clr sts (k + 1) := (by rw [h1, rs_clr_s])
    have hl9 : lv_has ls 10 [(4, .int (nI (k + 1))), (2, .long ((jv_lshl 1 (nI (K + P))) - 1)), (0, .ref mo), (1, .int (nI j))] := lv_sub hl [0, 1, 2, 3] rfl
    have hP9 : va_P (dC, dI) vwCl [(mo, .inr (6, [.ref mw, .int (nI cnt), .ref mk, .ref mp, .ref mz, .ref me, .ref mtb, .ref my, .ref mx, .ref mu, .ref mn, .ref mg, .int hf, .int fro, .ref mf, .int (nI fsz), .ref mi, .int (nI isz), .int z, .ref mh, .ref mv, .int (nI rk), .long lf, .long lo, .ref ms])), (mk, .inl (cA 0, 4, .inl kf)), (mp, .inl (cA 0, 4, .inl pf)), (me, .inl (cA 0, 4, .inl ef)), (mtb, .inl (cA 0, 52, .inl tbf)), (mx, .inl (cA 0, 256, .inl xsf)), (mn, .inl (cA 0, 4, .inl tkf)), (ms, .inl (cA 0, 40, .inl (upd f1 k 0)))] H := hP
    have hD9 : va_D A [(mo, .inr (6, [.ref mw, .int (nI cnt), .ref mk, .ref mp, .ref mz, .ref me, .ref mtb, .ref my, .ref mx, .ref mu, .ref mn, .ref mg, .int hf, .int fro, .ref mf, .int (nI fsz), .ref mi, .int (nI isz), .int z, .ref mh, .ref mv, .int (nI rk), .long lf, .long lo, .ref ms])), (mk, .inl (cA 0, 4, .inl kf)), (mp, .inl (cA 0, 4, .inl pf)), (me, .inl (cA 0, 4, .inl ef)), (mtb, .inl (cA 0, 52, .inl tbf)), (mx, .inl (cA 0, 256, .inl xsf)), (mn, .inl (cA 0, 4, .inl tkf)), (ms, .inl (cA 0, 40, .inl (upd f1 k 0)))] := hD
    exact ih_L0 (k + 1) (upd f1 k 0) H locs ls ⟨hi_hk, hi_h1, hl9, hP9, hD9, hS⟩ (by show 40 - (k + 1) < 40 - k; omega)
