set_option maxHeartbeats 4000000 in
set_option maxRecDepth 100000 in
theorem c_M_imageByte (l : Launch) (dC : Nat → ClassId) (dI : Nat → Nat → Nat) (cA : Nat → ClassId) (mo : Nat) (mw : Nat) (mk : Nat) (mp : Nat) (mz : Nat) (me : Nat) (mtb : Nat) (my : Nat) (mx : Nat) (mu : Nat) (mn : Nat) (mg : Nat) (mf : Nat) (mi : Nat) (mh : Nat) (mv : Nat) (ms : Nat) (cnt : Nat) (hf : Int32) (fro : Int32) (fsz : Nat) (isz : Nat) (z : Int32) (rk : Nat) (lf : Int64) (lo : Int64) (imf : Nat → Int32) (i : Int32) (hisz : isz ≤ 700) : Met l yX6_imageByte (kw_X6_imageByte) ({ frames := 0, cells := 0, slots := 0, locals := 0 }) (va_Pc [.ref mo, .int i] (fun U => kRO dC dI cA [(mo, .inr (6, [.ref mw, .int (nI cnt), .ref mk, .ref mp, .ref mz, .ref me, .ref mtb, .ref my, .ref mx, .ref mu, .ref mn, .ref mg, .int hf, .int fro, .ref mf, .int (nI fsz), .ref mi, .int (nI isz), .int z, .ref mh, .ref mv, .int (nI rk), .long lf, .long lo, .ref ms])), (mi, .inl (cA 0, 700, .inl imf))] U)) (vp_Si (fun r => r = rs_iby isz imf i)) 0 0 (fun _ => False) := by
  refine Met.ofW (cc := cX6_imageByte) (maxL := 2) (ret := (some .int)) (by decide) rfl ?_
  intro p e s m args below meth c s₁ B hml hv
  obtain ⟨rfl, hP, hK, hN⟩ := hv
  have hx := B.exec
  have hb := B.bytes
  have hr := B.returns
  have hts0 := atoms_spec (ws := (kw_X6_imageByte)) B.pre
  have hts : ∀ w ∈ TB, w.before _ s = true := fun w h => hts0 w (List.mem_cons_of_mem _ h)
  have hown : s.vm.findClass RX6 = some m.cls := findClass_of_methodNamed B.named
  have hlocks := B.notSynchronized
  have hk_0 := hts (.fieldLink RX6 179 "FountainRowsModel" "imageSize" "I") tb_389
  have hk_1 := hts (.fieldLink RX6 47 "FountainRowsModel" "image" "[I") tb_390
  have hl := lv_entry ([.ref mo, .int i]) (n := 2) (Nat.le_of_ble_eq_true rfl)
  rw [lg_entry_eq]
  generalize (lg_sl ([.ref mo, .int i]) ++ List.replicate (2 - (lg_sl ([.ref mo, .int i])).length) Slot.unset).toArray = ls at hl ⊢
  have hl : lv_has ls 2 [(0, .ref mo), (1, .int i)] := hl
  refine lv_iload_n hx hb dX6_imageByte_0 rfl (lv_at hl 1 rfl) ?_
  refine lv_if_lt (tgt := 12) hx hb dX6_imageByte_1 (by decide) (fun c_1 => ?_) (fun c_1 => ?_)
  · have c_1 : i < 0 := c_1
    refine lv_iconst (v := (-1)) hx hb dX6_imageByte_12 (by decide) ?_
    refine lv_goto (tgt := 22) hx hb dX6_imageByte_13 (by decide) ?_
    exact W.iret (v := (-1)) hx hb hr (fun t9 ht9 hW9 => ⟨(-1), rfl, (by unfold rs_iby; rw [if_pos c_1] <;> rfl), ht9⟩) (fun _ h => absurd h List.not_mem_nil) dX6_imageByte_22
  · have c_1 : ¬ (i < 0) := c_1
    refine lv_iload_n hx hb dX6_imageByte_4 rfl (lv_at hl 1 rfl) ?_
    refine lv_aload_n hx hb dX6_imageByte_5 rfl (lv_at hl 0 rfl) ?_
    refine va_get (D := (dC, dI)) (ci := 6) (v := .int (nI isz)) (C := RX6) (T := TX6) (N := 25) hx hb hts inX6 hown hK hP 0 rfl rfl 17 (by decide) hk_0 (fun _ h9 => h9) rfl dX6_imageByte_6 ?_
    refine lv_icmp_lt (tgt := 16) hx hb dX6_imageByte_9 (by decide) (fun c_2 => ?_) (fun c_2 => ?_)
    · have c_2 : i < (nI isz) := c_2
      refine lv_aload_n hx hb dX6_imageByte_16 rfl (lv_at hl 0 rfl) ?_
      refine va_get (D := (dC, dI)) (ci := 6) (v := .ref mi) (C := RX6) (T := TX6) (N := 25) hx hb hts inX6 hown hK hP 0 rfl rfl 16 (by decide) hk_1 (fun _ h9 => h9) rfl dX6_imageByte_17 ?_
      refine lv_iload_n hx hb dX6_imageByte_20 rfl (lv_at hl 1 rfl) ?_
      refine va_iald (D := (dC, dI)) hx hb hK hP 1 0 rfl rfl (rs_in c_1 c_2 hisz) dX6_imageByte_21 ?_
      exact W.iret (v := imf i.toNatClampNeg) hx hb hr (fun t9 ht9 hW9 => ⟨imf i.toNatClampNeg, rfl, (by unfold rs_iby; rw [if_neg c_1, if_pos c_2] <;> rfl), ht9⟩) (fun _ h => absurd h List.not_mem_nil) dX6_imageByte_22
    · have c_2 : ¬ (i < (nI isz)) := c_2
      refine lv_iconst (v := (-1)) hx hb dX6_imageByte_12 (by decide) ?_
      refine lv_goto (tgt := 22) hx hb dX6_imageByte_13 (by decide) ?_
      exact W.iret (v := (-1)) hx hb hr (fun t9 ht9 hW9 => ⟨(-1), rfl, (by unfold rs_iby; rw [if_neg c_1, if_neg c_2] <;> rfl), ht9⟩) (fun _ h => absurd h List.not_mem_nil) dX6_imageByte_22
set_option maxHeartbeats 4000000 in
set_option maxRecDepth 100000 in
theorem c_M_setByte (l : Launch) (dC : Nat → ClassId) (dI : Nat → Nat → Nat) (cA : Nat → ClassId) (sz : Nat) (mo : Nat) (mw : Nat) (mk : Nat) (mp : Nat) (mz : Nat) (me : Nat) (mtb : Nat) (my : Nat) (mx : Nat) (mu : Nat) (mn : Nat) (mg : Nat) (mf : Nat) (mi : Nat) (mh : Nat) (mv : Nat) (ms : Nat) (cnt : Nat) (hf : Int32) (fro : Int32) (fsz : Nat) (isz : Nat) (z : Int32) (rk : Nat) (lf : Int64) (lo : Int64) (imf : Nat → Int32) (i : Int32) (v : Int32) (hisz : isz ≤ 700) : Met l yX6_setByte (kw_X6_setByte) ({ frames := 0, cells := 0, slots := 0, locals := 0 }) (va_Pc [.ref mo, .int i, .int v] (fun U => kRW dC dI cA [(mo, .inr (6, [.ref mw, .int (nI cnt), .ref mk, .ref mp, .ref mz, .ref me, .ref mtb, .ref my, .ref mx, .ref mu, .ref mn, .ref mg, .int hf, .int fro, .ref mf, .int (nI fsz), .ref mi, .int (nI isz), .int z, .ref mh, .ref mv, .int (nI rk), .long lf, .long lo, .ref ms])), (mi, .inl (cA 0, 700, .inl imf))] sz U)) (va_Qi (fun r (u : Unit) => r = rs_iby isz imf i) (fun (u : Unit) t => kB dC dI (va_A [(mo, .inr (6, [.ref mw, .int (nI cnt), .ref mk, .ref mp, .ref mz, .ref me, .ref mtb, .ref my, .ref mx, .ref mu, .ref mn, .ref mg, .int hf, .int fro, .ref mf, .int (nI fsz), .ref mi, .int (nI isz), .int z, .ref mh, .ref mv, .int (nI rk), .long lf, .long lo, .ref ms])), (mi, .inl (cA 0, 700, .inl imf))] sz) [(mo, .inr (6, [.ref mw, .int (nI cnt), .ref mk, .ref mp, .ref mz, .ref me, .ref mtb, .ref my, .ref mx, .ref mu, .ref mn, .ref mg, .int hf, .int fro, .ref mf, .int (nI fsz), .ref mi, .int (nI isz), .int z, .ref mh, .ref mv, .int (nI rk), .long lf, .long lo, .ref ms])), (mi, .inl (cA 0, 700, .inl (rs_sbf isz imf i v)))] t) (va_A [(mo, .inr (6, [.ref mw, .int (nI cnt), .ref mk, .ref mp, .ref mz, .ref me, .ref mtb, .ref my, .ref mx, .ref mu, .ref mn, .ref mg, .int hf, .int fro, .ref mf, .int (nI fsz), .ref mi, .int (nI isz), .int z, .ref mh, .ref mv, .int (nI rk), .long lf, .long lo, .ref ms])), (mi, .inl (cA 0, 700, .inl imf))] sz)) 0 0 (va_A [(mo, .inr (6, [.ref mw, .int (nI cnt), .ref mk, .ref mp, .ref mz, .ref me, .ref mtb, .ref my, .ref mx, .ref mu, .ref mn, .ref mg, .int hf, .int fro, .ref mf, .int (nI fsz), .ref mi, .int (nI isz), .int z, .ref mh, .ref mv, .int (nI rk), .long lf, .long lo, .ref ms])), (mi, .inl (cA 0, 700, .inl imf))] sz) := by
  refine Met.ofW (cc := cX6_setByte) (maxL := 4) (ret := (some .int)) (by decide) rfl ?_
  intro p e s m args below meth c s₁ B hml hv
  obtain ⟨rfl, hsz, hP, hK, hN, hD0⟩ := hv
  have hx := B.exec
  have hb := B.bytes
  have hr := B.returns
  have hts0 := atoms_spec (ws := (kw_X6_setByte)) B.pre
  have hts : ∀ w ∈ TB, w.before _ s = true := fun w h => hts0 w (List.mem_cons_of_mem _ h)
  have hown : s.vm.findClass RX6 = some m.cls := findClass_of_methodNamed B.named
  have hlocks := B.notSynchronized
  subst hsz
  have hD := hD0.self (sz := s.heap.size)
  generalize hAe : va_A [(mo, .inr (6, [.ref mw, .int (nI cnt), .ref mk, .ref mp, .ref mz, .ref me, .ref mtb, .ref my, .ref mx, .ref mu, .ref mn, .ref mg, .int hf, .int fro, .ref mf, .int (nI fsz), .ref mi, .int (nI isz), .int z, .ref mh, .ref mv, .int (nI rk), .long lf, .long lo, .ref ms])), (mi, .inl (cA 0, 700, .inl imf))] s.heap.size = A at hD ⊢
  have hA : ∀ q : Nat, s.heap.size ≤ q → A q := fun q h => by rw [← hAe]; exact Or.inr h
  have hS : va_S A s.heap s.heap [] := va_S.rf
  have hk_0 := hts (.fieldLink RX6 179 "FountainRowsModel" "imageSize" "I") tb_389
  have hk_1 := hts (.fieldLink RX6 47 "FountainRowsModel" "image" "[I") tb_390
  have hl := lv_entry ([.ref mo, .int i, .int v]) (n := 4) (Nat.le_of_ble_eq_true rfl)
  rw [lg_entry_eq]
  generalize (lg_sl ([.ref mo, .int i, .int v]) ++ List.replicate (4 - (lg_sl ([.ref mo, .int i, .int v])).length) Slot.unset).toArray = ls at hl ⊢
  have hl : lv_has ls 4 [(0, .ref mo), (1, .int i), (2, .int v)] := hl
  refine lv_iload_n hx hb dX6_setByte_0 rfl (lv_at hl 1 rfl) ?_
  refine lv_if_lt (tgt := 12) hx hb dX6_setByte_1 (by decide) (fun c_1 => ?_) (fun c_1 => ?_)
  · have c_1 : i < 0 := c_1
    refine lv_iconst (v := (-1)) hx hb dX6_setByte_12 (by decide) ?_
    have hP9 := hP.sub (ws' := [(mo, .inr (6, [.ref mw, .int (nI cnt), .ref mk, .ref mp, .ref mz, .ref me, .ref mtb, .ref my, .ref mx, .ref mu, .ref mn, .ref mg, .int hf, .int fro, .ref mf, .int (nI fsz), .ref mi, .int (nI isz), .int z, .ref mh, .ref mv, .int (nI rk), .long lf, .long lo, .ref ms])), (mi, .inl (cA 0, 700, .inl imf))]) [0, 1] rfl
    have hD9 := hD.sub (ws' := [(mo, .inr (6, [.ref mw, .int (nI cnt), .ref mk, .ref mp, .ref mz, .ref me, .ref mtb, .ref my, .ref mx, .ref mu, .ref mn, .ref mg, .int hf, .int fro, .ref mf, .int (nI fsz), .ref mi, .int (nI isz), .int z, .ref mh, .ref mv, .int (nI rk), .long lf, .long lo, .ref ms])), (mi, .inl (cA 0, 700, .inl imf))]) [0, 1] (by decide) rfl
    have e9_0 : rs_sbf isz imf i v = imf := (by unfold rs_sbf; rw [if_pos c_1] <;> rfl)
    have e9 : ([(mo, .inr (6, [.ref mw, .int (nI cnt), .ref mk, .ref mp, .ref mz, .ref me, .ref mtb, .ref my, .ref mx, .ref mu, .ref mn, .ref mg, .int hf, .int fro, .ref mf, .int (nI fsz), .ref mi, .int (nI isz), .int z, .ref mh, .ref mv, .int (nI rk), .long lf, .long lo, .ref ms])), (mi, .inl (cA 0, 700, .inl (rs_sbf isz imf i v)))] : va_W) = [(mo, .inr (6, [.ref mw, .int (nI cnt), .ref mk, .ref mp, .ref mz, .ref me, .ref mtb, .ref my, .ref mx, .ref mu, .ref mn, .ref mg, .int hf, .int fro, .ref mf, .int (nI fsz), .ref mi, .int (nI isz), .int z, .ref mh, .ref mv, .int (nI rk), .long lf, .long lo, .ref ms])), (mi, .inl (cA 0, 700, .inl imf))] := by rw [e9_0]
    exact W.iret (v := (-1)) hx hb hr (fun t9 ht9 hW9 => ⟨⟨(-1), (), rfl, (by unfold rs_iby; rw [if_pos c_1] <;> rfl), by rw [ht9, e9]; exact hP9, by rw [e9]; exact hD9⟩, hS.F ht9⟩) hS.2.2 dX6_setByte_13
  · have c_1 : ¬ (i < 0) := c_1
    refine lv_iload_n hx hb dX6_setByte_4 rfl (lv_at hl 1 rfl) ?_
    refine lv_aload_n hx hb dX6_setByte_5 rfl (lv_at hl 0 rfl) ?_
    refine va_get (D := (dC, dI)) (ci := 6) (v := .int (nI isz)) (C := RX6) (T := TX6) (N := 25) hx hb hts inX6 hown hK hP 0 rfl rfl 17 (by decide) hk_0 (fun _ h9 => h9) rfl dX6_setByte_6 ?_
    refine lv_icmp_lt (tgt := 14) hx hb dX6_setByte_9 (by decide) (fun c_2 => ?_) (fun c_2 => ?_)
    · have c_2 : i < (nI isz) := c_2
      refine lv_aload_n hx hb dX6_setByte_14 rfl (lv_at hl 0 rfl) ?_
      refine va_get (D := (dC, dI)) (ci := 6) (v := .ref mi) (C := RX6) (T := TX6) (N := 25) hx hb hts inX6 hown hK hP 0 rfl rfl 16 (by decide) hk_1 (fun _ h9 => h9) rfl dX6_setByte_15 ?_
      refine lv_iload_n hx hb dX6_setByte_18 rfl (lv_at hl 1 rfl) ?_
      refine va_iald (D := (dC, dI)) hx hb hK hP 1 0 rfl rfl (rs_in c_1 c_2 hisz) dX6_setByte_19 ?_
      refine lv_istore_n (lv' := [(3, .int (imf i.toNatClampNeg)), (0, .ref mo), (1, .int i), (2, .int v)]) hx hb dX6_setByte_20 rfl hl (by decide) rfl (fun ls hl => ?_)
      refine lv_aload_n hx hb dX6_setByte_21 rfl (lv_at hl 1 rfl) ?_
      refine va_get (D := (dC, dI)) (ci := 6) (v := .ref mi) (C := RX6) (T := TX6) (N := 25) hx hb hts inX6 hown hK hP 0 rfl rfl 16 (by decide) hk_1 (fun _ h9 => h9) rfl dX6_setByte_22 ?_
      refine lv_iload_n hx hb dX6_setByte_25 rfl (lv_at hl 2 rfl) ?_
      refine lv_iload_n hx hb dX6_setByte_26 rfl (lv_at hl 3 rfl) ?_
      refine lv_sipush (v := 255) hx hb dX6_setByte_27 (by decide) ?_
      refine lv_iand hx hb dX6_setByte_30 ?_
      refine va_iast (D := (dC, dI)) hx hb hK hP hD hS 1 0 rfl rfl (rs_in c_1 c_2 hisz) dX6_setByte_31 (fun H locs hP hD hS => ?_)
      have hP : va_P (dC, dI) vwCl [(mo, .inr (6, [.ref mw, .int (nI cnt), .ref mk, .ref mp, .ref mz, .ref me, .ref mtb, .ref my, .ref mx, .ref mu, .ref mn, .ref mg, .int hf, .int fro, .ref mf, .int (nI fsz), .ref mi, .int (nI isz), .int z, .ref mh, .ref mv, .int (nI rk), .long lf, .long lo, .ref ms])), (mi, .inl (cA 0, 700, .inl (upd imf i.toNatClampNeg (v &&& 255))))] H := hP
      have hD : va_D A [(mo, .inr (6, [.ref mw, .int (nI cnt), .ref mk, .ref mp, .ref mz, .ref me, .ref mtb, .ref my, .ref mx, .ref mu, .ref mn, .ref mg, .int hf, .int fro, .ref mf, .int (nI fsz), .ref mi, .int (nI isz), .int z, .ref mh, .ref mv, .int (nI rk), .long lf, .long lo, .ref ms])), (mi, .inl (cA 0, 700, .inl (upd imf i.toNatClampNeg (v &&& 255))))] := hD
      refine lv_iload_n hx hb dX6_setByte_32 rfl (lv_at hl 0 rfl) ?_
      have hP9 := hP.sub (ws' := [(mo, .inr (6, [.ref mw, .int (nI cnt), .ref mk, .ref mp, .ref mz, .ref me, .ref mtb, .ref my, .ref mx, .ref mu, .ref mn, .ref mg, .int hf, .int fro, .ref mf, .int (nI fsz), .ref mi, .int (nI isz), .int z, .ref mh, .ref mv, .int (nI rk), .long lf, .long lo, .ref ms])), (mi, .inl (cA 0, 700, .inl (upd imf i.toNatClampNeg (v &&& 255))))]) [0, 1] rfl
      have hD9 := hD.sub (ws' := [(mo, .inr (6, [.ref mw, .int (nI cnt), .ref mk, .ref mp, .ref mz, .ref me, .ref mtb, .ref my, .ref mx, .ref mu, .ref mn, .ref mg, .int hf, .int fro, .ref mf, .int (nI fsz), .ref mi, .int (nI isz), .int z, .ref mh, .ref mv, .int (nI rk), .long lf, .long lo, .ref ms])), (mi, .inl (cA 0, 700, .inl (upd imf i.toNatClampNeg (v &&& 255))))]) [0, 1] (by decide) rfl
      have e9_0 : rs_sbf isz imf i v = upd imf i.toNatClampNeg (v &&& 255) := (by unfold rs_sbf; rw [if_neg c_1, if_pos c_2] <;> rfl)
      have e9 : ([(mo, .inr (6, [.ref mw, .int (nI cnt), .ref mk, .ref mp, .ref mz, .ref me, .ref mtb, .ref my, .ref mx, .ref mu, .ref mn, .ref mg, .int hf, .int fro, .ref mf, .int (nI fsz), .ref mi, .int (nI isz), .int z, .ref mh, .ref mv, .int (nI rk), .long lf, .long lo, .ref ms])), (mi, .inl (cA 0, 700, .inl (rs_sbf isz imf i v)))] : va_W) = [(mo, .inr (6, [.ref mw, .int (nI cnt), .ref mk, .ref mp, .ref mz, .ref me, .ref mtb, .ref my, .ref mx, .ref mu, .ref mn, .ref mg, .int hf, .int fro, .ref mf, .int (nI fsz), .ref mi, .int (nI isz), .int z, .ref mh, .ref mv, .int (nI rk), .long lf, .long lo, .ref ms])), (mi, .inl (cA 0, 700, .inl (upd imf i.toNatClampNeg (v &&& 255))))] := by rw [e9_0]
      exact W.iret (v := imf i.toNatClampNeg) hx hb hr (fun t9 ht9 hW9 => ⟨⟨imf i.toNatClampNeg, (), rfl, (by unfold rs_iby; rw [if_neg c_1, if_pos c_2] <;> rfl), by rw [ht9, e9]; exact hP9, by rw [e9]; exact hD9⟩, hS.F ht9⟩) hS.2.2 dX6_setByte_33
    · have c_2 : ¬ (i < (nI isz)) := c_2
      refine lv_iconst (v := (-1)) hx hb dX6_setByte_12 (by decide) ?_
      have hP9 := hP.sub (ws' := [(mo, .inr (6, [.ref mw, .int (nI cnt), .ref mk, .ref mp, .ref mz, .ref me, .ref mtb, .ref my, .ref mx, .ref mu, .ref mn, .ref mg, .int hf, .int fro, .ref mf, .int (nI fsz), .ref mi, .int (nI isz), .int z, .ref mh, .ref mv, .int (nI rk), .long lf, .long lo, .ref ms])), (mi, .inl (cA 0, 700, .inl imf))]) [0, 1] rfl
      have hD9 := hD.sub (ws' := [(mo, .inr (6, [.ref mw, .int (nI cnt), .ref mk, .ref mp, .ref mz, .ref me, .ref mtb, .ref my, .ref mx, .ref mu, .ref mn, .ref mg, .int hf, .int fro, .ref mf, .int (nI fsz), .ref mi, .int (nI isz), .int z, .ref mh, .ref mv, .int (nI rk), .long lf, .long lo, .ref ms])), (mi, .inl (cA 0, 700, .inl imf))]) [0, 1] (by decide) rfl
      have e9_0 : rs_sbf isz imf i v = imf := (by unfold rs_sbf; rw [if_neg c_1, if_neg c_2] <;> rfl)
      have e9 : ([(mo, .inr (6, [.ref mw, .int (nI cnt), .ref mk, .ref mp, .ref mz, .ref me, .ref mtb, .ref my, .ref mx, .ref mu, .ref mn, .ref mg, .int hf, .int fro, .ref mf, .int (nI fsz), .ref mi, .int (nI isz), .int z, .ref mh, .ref mv, .int (nI rk), .long lf, .long lo, .ref ms])), (mi, .inl (cA 0, 700, .inl (rs_sbf isz imf i v)))] : va_W) = [(mo, .inr (6, [.ref mw, .int (nI cnt), .ref mk, .ref mp, .ref mz, .ref me, .ref mtb, .ref my, .ref mx, .ref mu, .ref mn, .ref mg, .int hf, .int fro, .ref mf, .int (nI fsz), .ref mi, .int (nI isz), .int z, .ref mh, .ref mv, .int (nI rk), .long lf, .long lo, .ref ms])), (mi, .inl (cA 0, 700, .inl imf))] := by rw [e9_0]
      exact W.iret (v := (-1)) hx hb hr (fun t9 ht9 hW9 => ⟨⟨(-1), (), rfl, (by unfold rs_iby; rw [if_neg c_1, if_neg c_2] <;> rfl), by rw [ht9, e9]; exact hP9, by rw [e9]; exact hD9⟩, hS.F ht9⟩) hS.2.2 dX6_setByte_13
set_option maxHeartbeats 4000000 in
set_option maxRecDepth 100000 in
theorem c_M_cut_bad (l : Launch) (dC : Nat → ClassId) (dI : Nat → Nat → Nat) (cA : Nat → ClassId) (mo : Nat) (mw : Nat) (mk : Nat) (mp : Nat) (mz : Nat) (me : Nat) (mtb : Nat) (my : Nat) (mx : Nat) (mu : Nat) (mn : Nat) (mg : Nat) (mf : Nat) (mi : Nat) (mh : Nat) (mv : Nat) (ms : Nat) (cnt : Nat) (hf : Int32) (fro : Int32) (fsz : Nat) (isz : Nat) (z : Int32) (rk : Nat) (lf : Int64) (lo : Int64) (i : Int32) (hisz : isz ≤ 700) (hbad : i < 0 ∨ nI isz < i) : Met l yX6_cut (kw_X6_cut) ({ frames := 0, cells := 0, slots := 0, locals := 0 }) (va_Pc [.ref mo, .int i] (fun U => kRO dC dI cA [(mo, .inr (6, [.ref mw, .int (nI cnt), .ref mk, .ref mp, .ref mz, .ref me, .ref mtb, .ref my, .ref mx, .ref mu, .ref mn, .ref mg, .int hf, .int fro, .ref mf, .int (nI fsz), .ref mi, .int (nI isz), .int z, .ref mh, .ref mv, .int (nI rk), .long lf, .long lo, .ref ms]))] U)) (vp_Si (fun r => r = (-2))) 0 0 (fun _ => False) := by
  refine Met.ofW (cc := cX6_cut) (maxL := 3) (ret := (some .int)) (by decide) rfl ?_
  intro p e s m args below meth c s₁ B hml hv
  obtain ⟨rfl, hP, hK, hN⟩ := hv
  have hx := B.exec
  have hb := B.bytes
  have hr := B.returns
  have hts0 := atoms_spec (ws := (kw_X6_cut)) B.pre
  have hts : ∀ w ∈ TB, w.before _ s = true := fun w h => hts0 w (List.mem_cons_of_mem _ h)
  have hown : s.vm.findClass RX6 = some m.cls := findClass_of_methodNamed B.named
  have hlocks := B.notSynchronized
  have hk_0 := hts (.fieldLink RX6 179 "FountainRowsModel" "imageSize" "I") tb_389
  have hl := lv_entry ([.ref mo, .int i]) (n := 3) (Nat.le_of_ble_eq_true rfl)
  rw [lg_entry_eq]
  generalize (lg_sl ([.ref mo, .int i]) ++ List.replicate (3 - (lg_sl ([.ref mo, .int i])).length) Slot.unset).toArray = ls at hl ⊢
  have hl : lv_has ls 3 [(0, .ref mo), (1, .int i)] := hl
  refine lv_iload_n hx hb dX6_cut_0 rfl (lv_at hl 1 rfl) ?_
  refine lv_if_lt (tgt := 12) hx hb dX6_cut_1 (by decide) (fun c_1 => ?_) (fun c_1 => ?_)
  · have c_1 : i < 0 := c_1
    refine lv_bipush (v := (-2)) hx hb dX6_cut_12 (by decide) ?_
    exact W.iret (v := (-2)) hx hb hr (fun t9 ht9 hW9 => ⟨(-2), rfl, rfl, ht9⟩) (fun _ h => absurd h List.not_mem_nil) dX6_cut_14
  · have c_1 : ¬ (i < 0) := c_1
    refine lv_iload_n hx hb dX6_cut_4 rfl (lv_at hl 1 rfl) ?_
    refine lv_aload_n hx hb dX6_cut_5 rfl (lv_at hl 0 rfl) ?_
    refine va_get (D := (dC, dI)) (ci := 6) (v := .int (nI isz)) (C := RX6) (T := TX6) (N := 25) hx hb hts inX6 hown hK hP 0 rfl rfl 17 (by decide) hk_0 (fun _ h9 => h9) rfl dX6_cut_6 ?_
    refine lv_icmp_le (tgt := 15) hx hb dX6_cut_9 (by decide) (fun c_2 => ?_) (fun c_2 => ?_)
    · have c_2 : i ≤ (nI isz) := c_2
      rcases hbad with h | h
      exact absurd h c_1
      exact absurd c_2 (Int32.not_le.mpr h)
    · have c_2 : ¬ (i ≤ (nI isz)) := c_2
      refine lv_bipush (v := (-2)) hx hb dX6_cut_12 (by decide) ?_
      exact W.iret (v := (-2)) hx hb hr (fun t9 ht9 hW9 => ⟨(-2), rfl, rfl, ht9⟩) (fun _ h => absurd h List.not_mem_nil) dX6_cut_14
set_option maxHeartbeats 4000000 in
set_option maxRecDepth 100000 in
theorem c_M_cut_at (l : Launch) (dC : Nat → ClassId) (dI : Nat → Nat → Nat) (cA : Nat → ClassId) (sz : Nat) (mo : Nat) (mw : Nat) (mk : Nat) (mp : Nat) (mz : Nat) (me : Nat) (mtb : Nat) (my : Nat) (mx : Nat) (mu : Nat) (mn : Nat) (mg : Nat) (mf : Nat) (mi : Nat) (mh : Nat) (mv : Nat) (ms : Nat) (cnt : Nat) (hf : Int32) (fro : Int32) (fsz : Nat) (isz : Nat) (z : Int32) (rk : Nat) (lf : Int64) (lo : Int64) (ii : Nat) (hisz : isz ≤ 700) (hii : ii ≤ isz) : Met l yX6_cut (kw_X6_cut) ({ frames := 0, cells := 0, slots := 0, locals := 0 }) (va_Pc [.ref mo, .int (nI ii)] (fun U => kRW dC dI cA [(mo, .inr (6, [.ref mw, .int (nI cnt), .ref mk, .ref mp, .ref mz, .ref me, .ref mtb, .ref my, .ref mx, .ref mu, .ref mn, .ref mg, .int hf, .int fro, .ref mf, .int (nI fsz), .ref mi, .int (nI isz), .int z, .ref mh, .ref mv, .int (nI rk), .long lf, .long lo, .ref ms]))] sz U)) (va_Qi (fun r (u : Unit) => r = nI isz) (fun (u : Unit) t => kB dC dI (va_A [(mo, .inr (6, [.ref mw, .int (nI cnt), .ref mk, .ref mp, .ref mz, .ref me, .ref mtb, .ref my, .ref mx, .ref mu, .ref mn, .ref mg, .int hf, .int fro, .ref mf, .int (nI fsz), .ref mi, .int (nI isz), .int z, .ref mh, .ref mv, .int (nI rk), .long lf, .long lo, .ref ms]))] sz) [(mo, .inr (6, [.ref mw, .int (nI cnt), .ref mk, .ref mp, .ref mz, .ref me, .ref mtb, .ref my, .ref mx, .ref mu, .ref mn, .ref mg, .int hf, .int fro, .ref mf, .int (nI fsz), .ref mi, .int (nI ii), .int z, .ref mh, .ref mv, .int (nI rk), .long lf, .long lo, .ref ms]))] t) (va_A [(mo, .inr (6, [.ref mw, .int (nI cnt), .ref mk, .ref mp, .ref mz, .ref me, .ref mtb, .ref my, .ref mx, .ref mu, .ref mn, .ref mg, .int hf, .int fro, .ref mf, .int (nI fsz), .ref mi, .int (nI isz), .int z, .ref mh, .ref mv, .int (nI rk), .long lf, .long lo, .ref ms]))] sz)) 0 0 (va_A [(mo, .inr (6, [.ref mw, .int (nI cnt), .ref mk, .ref mp, .ref mz, .ref me, .ref mtb, .ref my, .ref mx, .ref mu, .ref mn, .ref mg, .int hf, .int fro, .ref mf, .int (nI fsz), .ref mi, .int (nI isz), .int z, .ref mh, .ref mv, .int (nI rk), .long lf, .long lo, .ref ms]))] sz) := by
  refine Met.ofW (cc := cX6_cut) (maxL := 3) (ret := (some .int)) (by decide) rfl ?_
  intro p e s m args below meth c s₁ B hml hv
  obtain ⟨rfl, hsz, hP, hK, hN, hD0⟩ := hv
  have hx := B.exec
  have hb := B.bytes
  have hr := B.returns
  have hts0 := atoms_spec (ws := (kw_X6_cut)) B.pre
  have hts : ∀ w ∈ TB, w.before _ s = true := fun w h => hts0 w (List.mem_cons_of_mem _ h)
  have hown : s.vm.findClass RX6 = some m.cls := findClass_of_methodNamed B.named
  have hlocks := B.notSynchronized
  subst hsz
  have hD := hD0.self (sz := s.heap.size)
  generalize hAe : va_A [(mo, .inr (6, [.ref mw, .int (nI cnt), .ref mk, .ref mp, .ref mz, .ref me, .ref mtb, .ref my, .ref mx, .ref mu, .ref mn, .ref mg, .int hf, .int fro, .ref mf, .int (nI fsz), .ref mi, .int (nI isz), .int z, .ref mh, .ref mv, .int (nI rk), .long lf, .long lo, .ref ms]))] s.heap.size = A at hD ⊢
  have hA : ∀ q : Nat, s.heap.size ≤ q → A q := fun q h => by rw [← hAe]; exact Or.inr h
  have hS : va_S A s.heap s.heap [] := va_S.rf
  have hk_0 := hts (.fieldLink RX6 179 "FountainRowsModel" "imageSize" "I") tb_389
  have hl := lv_entry ([.ref mo, .int (nI ii)]) (n := 3) (Nat.le_of_ble_eq_true rfl)
  rw [lg_entry_eq]
  generalize (lg_sl ([.ref mo, .int (nI ii)]) ++ List.replicate (3 - (lg_sl ([.ref mo, .int (nI ii)])).length) Slot.unset).toArray = ls at hl ⊢
  have hl : lv_has ls 3 [(0, .ref mo), (1, .int (nI ii))] := hl
  refine lv_iload_n hx hb dX6_cut_0 rfl (lv_at hl 1 rfl) ?_
  refine lv_if_lt (tgt := 12) hx hb dX6_cut_1 (by decide) (fun c_1 => ?_) (fun c_1 => ?_)
  · have c_1 : (nI ii) < 0 := c_1
    exact absurd c_1 (nI_pos (by omega))
  · have c_1 : ¬ ((nI ii) < 0) := c_1
    refine lv_iload_n hx hb dX6_cut_4 rfl (lv_at hl 1 rfl) ?_
    refine lv_aload_n hx hb dX6_cut_5 rfl (lv_at hl 0 rfl) ?_
    refine va_get (D := (dC, dI)) (ci := 6) (v := .int (nI isz)) (C := RX6) (T := TX6) (N := 25) hx hb hts inX6 hown hK hP 0 rfl rfl 17 (by decide) hk_0 (fun _ h9 => h9) rfl dX6_cut_6 ?_
    refine lv_icmp_le (tgt := 15) hx hb dX6_cut_9 (by decide) (fun c_2 => ?_) (fun c_2 => ?_)
    · have c_2 : (nI ii) ≤ (nI isz) := c_2
      refine lv_aload_n hx hb dX6_cut_15 rfl (lv_at hl 0 rfl) ?_
      refine va_get (D := (dC, dI)) (ci := 6) (v := .int (nI isz)) (C := RX6) (T := TX6) (N := 25) hx hb hts inX6 hown hK hP 0 rfl rfl 17 (by decide) hk_0 (fun _ h9 => h9) rfl dX6_cut_16 ?_
      refine lv_istore_n (lv' := [(2, .int (nI isz)), (0, .ref mo), (1, .int (nI ii))]) hx hb dX6_cut_19 rfl hl (by decide) rfl (fun ls hl => ?_)
      refine lv_aload_n hx hb dX6_cut_20 rfl (lv_at hl 1 rfl) ?_
      refine lv_iload_n hx hb dX6_cut_21 rfl (lv_at hl 2 rfl) ?_
      refine va_put (D := (dC, dI)) (ci := 6) (v := .int (nI ii)) (ty := .int) (C := RX6) (T := TX6) (N := 25) hx hb hts inX6 tyX6 tyX6_ok nmX6 hown hK hP hD hS 0 rfl rfl 17 (by decide) hk_0 (fun _ h9 => h9) rfl (by decide +kernel) rfl rfl (Nat.le_of_ble_eq_true rfl) dX6_cut_22 (fun H locs hP hD hS => ?_)
      have hP : va_P (dC, dI) vwCl [(mo, .inr (6, [.ref mw, .int (nI cnt), .ref mk, .ref mp, .ref mz, .ref me, .ref mtb, .ref my, .ref mx, .ref mu, .ref mn, .ref mg, .int hf, .int fro, .ref mf, .int (nI fsz), .ref mi, .int (nI ii), .int z, .ref mh, .ref mv, .int (nI rk), .long lf, .long lo, .ref ms]))] H := hP
      have hD : va_D A [(mo, .inr (6, [.ref mw, .int (nI cnt), .ref mk, .ref mp, .ref mz, .ref me, .ref mtb, .ref my, .ref mx, .ref mu, .ref mn, .ref mg, .int hf, .int fro, .ref mf, .int (nI fsz), .ref mi, .int (nI ii), .int z, .ref mh, .ref mv, .int (nI rk), .long lf, .long lo, .ref ms]))] := hD
      refine lv_iload_n hx hb dX6_cut_25 rfl (lv_at hl 0 rfl) ?_
      have hP9 := hP.sub (ws' := [(mo, .inr (6, [.ref mw, .int (nI cnt), .ref mk, .ref mp, .ref mz, .ref me, .ref mtb, .ref my, .ref mx, .ref mu, .ref mn, .ref mg, .int hf, .int fro, .ref mf, .int (nI fsz), .ref mi, .int (nI ii), .int z, .ref mh, .ref mv, .int (nI rk), .long lf, .long lo, .ref ms]))]) [0] rfl
      have hD9 := hD.sub (ws' := [(mo, .inr (6, [.ref mw, .int (nI cnt), .ref mk, .ref mp, .ref mz, .ref me, .ref mtb, .ref my, .ref mx, .ref mu, .ref mn, .ref mg, .int hf, .int fro, .ref mf, .int (nI fsz), .ref mi, .int (nI ii), .int z, .ref mh, .ref mv, .int (nI rk), .long lf, .long lo, .ref ms]))]) [0] (by decide) rfl
      exact W.iret (v := nI isz) hx hb hr (fun t9 ht9 hW9 => ⟨⟨nI isz, (), rfl, rfl, by rw [ht9]; exact hP9, hD9⟩, hS.F ht9⟩) hS.2.2 dX6_cut_26
    · have c_2 : ¬ ((nI ii) ≤ (nI isz)) := c_2
      exact absurd (nI_le hii (by omega)) c_2
set_option maxHeartbeats 4000000 in
set_option maxRecDepth 100000 in
theorem c_M_number (l : Launch) (dC : Nat → ClassId) (dI : Nat → Nat → Nat) (cA : Nat → ClassId) (mo : Nat) (mw : Nat) (mk : Nat) (mp : Nat) (mz : Nat) (me : Nat) (mtb : Nat) (my : Nat) (mx : Nat) (mu : Nat) (mn : Nat) (mg : Nat) (mf : Nat) (mi : Nat) (mh : Nat) (mv : Nat) (ms : Nat) (cnt : Nat) (hf : Int32) (fro : Int32) (fsz : Nat) (isz : Nat) (z : Int32) (rk : Nat) (lf : Int64) (lo : Int64) (imf : Nat → Int32) (fr : Nat) (cn : Nat) (hfc : fr + cn ≤ 700) : Met l yX6_number (kw_X6_number) ({ frames := 0, cells := 0, slots := 0, locals := 0 }) (va_Pc [.ref mo, .int (nI fr), .int (nI cn)] (fun U => kRO dC dI cA [(mo, .inr (6, [.ref mw, .int (nI cnt), .ref mk, .ref mp, .ref mz, .ref me, .ref mtb, .ref my, .ref mx, .ref mu, .ref mn, .ref mg, .int hf, .int fro, .ref mf, .int (nI fsz), .ref mi, .int (nI isz), .int z, .ref mh, .ref mv, .int (nI rk), .long lf, .long lo, .ref ms])), (mi, .inl (cA 0, 700, .inl imf))] U)) (vp_Sl (fun r => r = rs_num imf fr cn)) 0 0 (fun _ => False) := by
  refine Met.ofW (cc := cX6_number) (maxL := 6) (ret := (some .long)) (by decide) rfl ?_
  intro p e s m args below meth c s₁ B hml hv
  obtain ⟨rfl, hP, hK, hN⟩ := hv
  have hx := B.exec
  have hb := B.bytes
  have hr := B.returns
  have hts0 := atoms_spec (ws := (kw_X6_number)) B.pre
  have hts : ∀ w ∈ TB, w.before _ s = true := fun w h => hts0 w (List.mem_cons_of_mem _ h)
  have hown : s.vm.findClass RX6 = some m.cls := findClass_of_methodNamed B.named
  have hlocks := B.notSynchronized
  have hk_0 := hts (.fieldLink RX6 47 "FountainRowsModel" "image" "[I") tb_390
  have hl := lv_entry ([.ref mo, .int (nI fr), .int (nI cn)]) (n := 6) (Nat.le_of_ble_eq_true rfl)
  rw [lg_entry_eq]
  generalize (lg_sl ([.ref mo, .int (nI fr), .int (nI cn)]) ++ List.replicate (6 - (lg_sl ([.ref mo, .int (nI fr), .int (nI cn)])).length) Slot.unset).toArray = ls at hl ⊢
  have hl : lv_has ls 6 [(0, .ref mo), (1, .int (nI fr)), (2, .int (nI cn))] := hl
  refine lv_lconst (v := 0) hx hb dX6_number_0 (by decide) ?_
  refine lv_lstore_n (lv' := [(3, .long 0), (0, .ref mo), (1, .int (nI fr)), (2, .int (nI cn))]) hx hb dX6_number_1 rfl hl (by decide) rfl (fun ls hl => ?_)
  refine lv_iconst (v := 0) hx hb dX6_number_2 (by decide) ?_
  refine lv_istore (lv' := [(5, .int 0), (3, .long 0), (0, .ref mo), (1, .int (nI fr)), (2, .int (nI cn))]) hx hb dX6_number_3 hl (by decide) rfl (fun ls hl => ?_)
  have hi_hk : 0 ≤ cn := (by omega)
  have hi_hx9 : 0 = rs_num imf fr 0 := rfl
  have hl9 : lv_has ls 6 [(5, .int (nI 0)), (3, .long 0), (0, .ref mo), (1, .int (nI fr)), (2, .int (nI cn))] := lv_sub hl [0, 1, 2, 3, 4] rfl
  refine r_loop2 (I := fun (k : Nat) (x : Int64) (ls : Array Slot) => (k ≤ cn) ∧ (x = rs_num imf fr k) ∧ lv_has ls 6 [(5, .int (nI k)), (3, .long x), (0, .ref mo), (1, .int (nI fr)), (2, .int (nI cn))]) (μ := fun k x => cn - k) ?_ 0 0 ⟨hi_hk, hi_hx9, hl9⟩
  intro k x ls hI9 ih_L0
  obtain ⟨hk, hx9, hl⟩ := hI9
  refine lv_iload hx hb dX6_number_5 (lv_at hl 0 rfl) ?_
  refine lv_iload_n hx hb dX6_number_7 rfl (lv_at hl 4 rfl) ?_
  refine lv_icmp_ge (tgt := 33) hx hb dX6_number_8 (by decide) (fun c_1 => ?_) (fun c_1 => ?_)
  · have c_1 : (nI cn) ≤ (nI k) := c_1
    have hk9 : cn ≤ k := (ku_le (a := cn) (b := k) (by omega) (by omega)).mp c_1
    refine lv_lload_n hx hb dX6_number_33 rfl (lv_at hl 1 rfl) ?_
    exact W.lret (v := x) hx hb hr (fun t9 ht9 hW9 => ⟨x, rfl, (by have e : k = cn := (by omega); rw [hx9, e]), ht9⟩) (fun _ h => absurd h List.not_mem_nil) dX6_number_34
  · have c_1 : ¬ ((nI cn) ≤ (nI k)) := c_1
    have hk9 : k < cn := (ku_nle (a := cn) (b := k) (by omega) (by omega)).mp c_1
    refine lv_lload_n hx hb dX6_number_11 rfl (lv_at hl 1 rfl) ?_
    refine lv_bipush (v := 8) hx hb dX6_number_12 (by decide) ?_
    refine lv_lshl (v := jv_lshl x (8 : Int32)) hx hb dX6_number_14 rfl ?_
    refine lv_aload_n hx hb dX6_number_15 rfl (lv_at hl 2 rfl) ?_
    refine va_get (D := (dC, dI)) (ci := 6) (v := .ref mi) (C := RX6) (T := TX6) (N := 25) hx hb hts inX6 hown hK hP 0 rfl rfl 16 (by decide) hk_0 (fun _ h9 => h9) rfl dX6_number_16 ?_
    refine lv_iload_n hx hb dX6_number_19 rfl (lv_at hl 3 rfl) ?_
    refine lv_iload hx hb dX6_number_20 (lv_at hl 0 rfl) ?_
    refine lv_iadd hx hb dX6_number_22 ?_
    refine kt_i (y := nI (fr + k)) (nI_add fr k) ?_
    refine va_iald (D := (dC, dI)) hx hb hK hP 1 0 rfl rfl (vp_in_nI (by omega) (by omega)) dX6_number_23 ?_
    refine kt_i (congrArg imf (nI_clamp (by omega : (fr + k) < 2 ^ 31))) ?_
    refine lv_i2l (v := (imf (fr + k)).toInt64) hx hb dX6_number_24 rfl ?_
    refine lv_lor hx hb dX6_number_25 ?_
    refine lv_lstore_n (lv' := [(3, .long ((jv_lshl x (8 : Int32)) ||| ((imf (fr + k)).toInt64))), (5, .int (nI k)), (0, .ref mo), (1, .int (nI fr)), (2, .int (nI cn))]) hx hb dX6_number_26 rfl hl (by decide) rfl (fun ls hl => ?_)
    refine lv_iinc (v := nI (k + 1)) (lv' := [(5, .int (nI (k + 1))), (3, .long ((jv_lshl x (8 : Int32)) ||| ((imf (fr + k)).toInt64))), (0, .ref mo), (1, .int (nI fr)), (2, .int (nI cn))]) hx hb dX6_number_27 hl (k := 1) rfl (nI_succ _).symm (by decide) rfl (fun ls hl => ?_)
    refine lv_goto (tgt := 5) hx hb dX6_number_30 (by decide) ?_
    have hi_hk : (k + 1) ≤ cn := (by omega)
    have hi_hx9 : ((jv_lshl x (8 : Int32)) ||| ((imf (fr + k)).toInt64)) = rs_num imf fr (k + 1) := (by rw [hx9]; rfl)
    have hl9 : lv_has ls 6 [(5, .int (nI (k + 1))), (3, .long ((jv_lshl x (8 : Int32)) ||| ((imf (fr + k)).toInt64))), (0, .ref mo), (1, .int (nI fr)), (2, .int (nI cn))] := lv_sub hl [0, 1, 2, 3, 4] rfl
    exact ih_L0 (k + 1) ((jv_lshl x (8 : Int32)) ||| ((imf (fr + k)).toInt64)) ls ⟨hi_hk, hi_hx9, hl9⟩ (by show cn - (k + 1) < cn - k; omega)
set_option maxHeartbeats 4000000 in
set_option maxRecDepth 100000 in
theorem c_M_say (l : Launch) (dC : Nat → ClassId) (dI : Nat → Nat → Nat) (cA : Nat → ClassId) (sz : Nat) (mo : Nat) (mw : Nat) (mk : Nat) (mp : Nat) (mz : Nat) (me : Nat) (mtb : Nat) (my : Nat) (mx : Nat) (mu : Nat) (mn : Nat) (mg : Nat) (mf : Nat) (mi : Nat) (mh : Nat) (mv : Nat) (ms : Nat) (cnt : Nat) (hf : Int32) (fro : Int32) (fsz : Nat) (isz : Nat) (z : Int32) (rk : Nat) (lf : Int64) (lo : Int64) (imf : Nat → Int32) (v : Int64) (cn : Nat) (hsz : isz + cn ≤ 700) : Met l yX6_say (kw_X6_say) ({ frames := 0, cells := 0, slots := 0, locals := 0 }) (va_Pc [.ref mo, .long v, .int (nI cn)] (fun U => kRW dC dI cA [(mo, .inr (6, [.ref mw, .int (nI cnt), .ref mk, .ref mp, .ref mz, .ref me, .ref mtb, .ref my, .ref mx, .ref mu, .ref mn, .ref mg, .int hf, .int fro, .ref mf, .int (nI fsz), .ref mi, .int (nI isz), .int z, .ref mh, .ref mv, .int (nI rk), .long lf, .long lo, .ref ms])), (mi, .inl (cA 0, 700, .inl imf))] sz U)) (va_Qv (fun (u : Unit) => True) (fun (u : Unit) t => kB dC dI (va_A [(mo, .inr (6, [.ref mw, .int (nI cnt), .ref mk, .ref mp, .ref mz, .ref me, .ref mtb, .ref my, .ref mx, .ref mu, .ref mn, .ref mg, .int hf, .int fro, .ref mf, .int (nI fsz), .ref mi, .int (nI isz), .int z, .ref mh, .ref mv, .int (nI rk), .long lf, .long lo, .ref ms])), (mi, .inl (cA 0, 700, .inl imf))] sz) [(mo, .inr (6, [.ref mw, .int (nI cnt), .ref mk, .ref mp, .ref mz, .ref me, .ref mtb, .ref my, .ref mx, .ref mu, .ref mn, .ref mg, .int hf, .int fro, .ref mf, .int (nI fsz), .ref mi, .int (nI ((rs_say v cn imf isz).2)), .int z, .ref mh, .ref mv, .int (nI rk), .long lf, .long lo, .ref ms])), (mi, .inl (cA 0, 700, .inl ((rs_say v cn imf isz).1)))] t) (va_A [(mo, .inr (6, [.ref mw, .int (nI cnt), .ref mk, .ref mp, .ref mz, .ref me, .ref mtb, .ref my, .ref mx, .ref mu, .ref mn, .ref mg, .int hf, .int fro, .ref mf, .int (nI fsz), .ref mi, .int (nI isz), .int z, .ref mh, .ref mv, .int (nI rk), .long lf, .long lo, .ref ms])), (mi, .inl (cA 0, 700, .inl imf))] sz)) 0 0 (va_A [(mo, .inr (6, [.ref mw, .int (nI cnt), .ref mk, .ref mp, .ref mz, .ref me, .ref mtb, .ref my, .ref mx, .ref mu, .ref mn, .ref mg, .int hf, .int fro, .ref mf, .int (nI fsz), .ref mi, .int (nI isz), .int z, .ref mh, .ref mv, .int (nI rk), .long lf, .long lo, .ref ms])), (mi, .inl (cA 0, 700, .inl imf))] sz) := by
  refine Met.ofW (cc := cX6_say) (maxL := 5) (ret := none) (by decide) rfl ?_
  intro p e s m args below meth c s₁ B hml hv
  obtain ⟨rfl, hsz, hP, hK, hN, hD0⟩ := hv
  have hx := B.exec
  have hb := B.bytes
  have hr := B.returns
  have hts0 := atoms_spec (ws := (kw_X6_say)) B.pre
  have hts : ∀ w ∈ TB, w.before _ s = true := fun w h => hts0 w (List.mem_cons_of_mem _ h)
  have hown : s.vm.findClass RX6 = some m.cls := findClass_of_methodNamed B.named
  have hlocks := B.notSynchronized
  subst hsz
  have hD := hD0.self (sz := s.heap.size)
  generalize hAe : va_A [(mo, .inr (6, [.ref mw, .int (nI cnt), .ref mk, .ref mp, .ref mz, .ref me, .ref mtb, .ref my, .ref mx, .ref mu, .ref mn, .ref mg, .int hf, .int fro, .ref mf, .int (nI fsz), .ref mi, .int (nI isz), .int z, .ref mh, .ref mv, .int (nI rk), .long lf, .long lo, .ref ms])), (mi, .inl (cA 0, 700, .inl imf))] s.heap.size = A at hD ⊢
  have hA : ∀ q : Nat, s.heap.size ≤ q → A q := fun q h => by rw [← hAe]; exact Or.inr h
  have hS : va_S A s.heap s.heap [] := va_S.rf
  have hk_0 := hts (.fieldLink RX6 47 "FountainRowsModel" "image" "[I") tb_390
  have hk_1 := hts (.fieldLink RX6 179 "FountainRowsModel" "imageSize" "I") tb_389
  have hl := lv_entry ([.ref mo, .long v, .int (nI cn)]) (n := 5) (Nat.le_of_ble_eq_true rfl)
  rw [lg_entry_eq]
  generalize (lg_sl ([.ref mo, .long v, .int (nI cn)]) ++ List.replicate (5 - (lg_sl ([.ref mo, .long v, .int (nI cn)])).length) Slot.unset).toArray = ls at hl ⊢
  have hl : lv_has ls 5 [(0, .ref mo), (1, .long v), (3, .int (nI cn))] := hl
  refine lv_iload_n hx hb dX6_say_0 rfl (lv_at hl 2 rfl) ?_
  refine lv_iconst (v := 1) hx hb dX6_say_1 (by decide) ?_
  refine lv_isub hx hb dX6_say_2 ?_
  refine lv_istore (lv' := [(4, .int ((nI cn) - 1)), (0, .ref mo), (1, .long v), (3, .int (nI cn))]) hx hb dX6_say_3 hl (by decide) rfl (fun ls hl => ?_)
  have hi_hr9 : cn ≤ cn := (Nat.le_refl _)
  have hi_hle : isz + cn ≤ 700 := hsz
  have hi_heq : rs_say v cn imf isz = rs_say v cn imf isz := rfl
  have hl9 : lv_has ls 5 [(4, .int (nI cn - 1)), (0, .ref mo), (1, .long v), (3, .int (nI cn))] := lv_sub hl [0, 1, 2, 3] rfl
  refine k_loop3 (I := fun (r : Nat) (is1 : Nat) (f1 : Nat → Int32) (H : Heap) (locs : List Loc) (ls : Array Slot) => (r ≤ cn) ∧ (is1 + r ≤ 700) ∧ (rs_say v r f1 is1 = rs_say v cn imf isz) ∧ lv_has ls 5 [(4, .int (nI r - 1)), (0, .ref mo), (1, .long v), (3, .int (nI cn))] ∧ va_P (dC, dI) vwCl [(mo, .inr (6, [.ref mw, .int (nI cnt), .ref mk, .ref mp, .ref mz, .ref me, .ref mtb, .ref my, .ref mx, .ref mu, .ref mn, .ref mg, .int hf, .int fro, .ref mf, .int (nI fsz), .ref mi, .int (nI is1), .int z, .ref mh, .ref mv, .int (nI rk), .long lf, .long lo, .ref ms])), (mi, .inl (cA 0, 700, .inl f1))] H ∧ va_D A [(mo, .inr (6, [.ref mw, .int (nI cnt), .ref mk, .ref mp, .ref mz, .ref me, .ref mtb, .ref my, .ref mx, .ref mu, .ref mn, .ref mg, .int hf, .int fro, .ref mf, .int (nI fsz), .ref mi, .int (nI is1), .int z, .ref mh, .ref mv, .int (nI rk), .long lf, .long lo, .ref ms])), (mi, .inl (cA 0, 700, .inl f1))] ∧ va_S A s.heap H locs) (μ := fun r is1 f1 => r) ?_ cn isz imf ⟨hi_hr9, hi_hle, hi_heq, hl9, hP, hD, hS⟩
  intro r is1 f1 H locs ls hI9 ih_L0
  obtain ⟨hr9, hle, heq, hl, hP, hD, hS⟩ := hI9
  refine lv_iload hx hb dX6_say_5 (lv_at hl 0 rfl) ?_
  refine lv_if_lt (tgt := 47) hx hb dX6_say_7 (by decide) (fun c_1 => ?_) (fun c_1 => ?_)
  · have c_1 : (nI r - 1) < 0 := c_1
    have h0 : r = 0 := by have := (ku_neg (a := r) (b := 1) (by omega) (by omega)).mp c_1; omega
    subst h0
    have hP9 := hP.sub (ws' := [(mo, .inr (6, [.ref mw, .int (nI cnt), .ref mk, .ref mp, .ref mz, .ref me, .ref mtb, .ref my, .ref mx, .ref mu, .ref mn, .ref mg, .int hf, .int fro, .ref mf, .int (nI fsz), .ref mi, .int (nI is1), .int z, .ref mh, .ref mv, .int (nI rk), .long lf, .long lo, .ref ms])), (mi, .inl (cA 0, 700, .inl f1))]) [0, 1] rfl
    have hD9 := hD.sub (ws' := [(mo, .inr (6, [.ref mw, .int (nI cnt), .ref mk, .ref mp, .ref mz, .ref me, .ref mtb, .ref my, .ref mx, .ref mu, .ref mn, .ref mg, .int hf, .int fro, .ref mf, .int (nI fsz), .ref mi, .int (nI is1), .int z, .ref mh, .ref mv, .int (nI rk), .long lf, .long lo, .ref ms])), (mi, .inl (cA 0, 700, .inl f1))]) [0, 1] (by decide) rfl
    have e9_0 : nI ((rs_say v cn imf isz).2) = nI is1 := (by rw [← heq]; rfl)
    have e9_1 : (rs_say v cn imf isz).1 = f1 := (by rw [← heq]; rfl)
    have e9 : ([(mo, .inr (6, [.ref mw, .int (nI cnt), .ref mk, .ref mp, .ref mz, .ref me, .ref mtb, .ref my, .ref mx, .ref mu, .ref mn, .ref mg, .int hf, .int fro, .ref mf, .int (nI fsz), .ref mi, .int (nI ((rs_say v cn imf isz).2)), .int z, .ref mh, .ref mv, .int (nI rk), .long lf, .long lo, .ref ms])), (mi, .inl (cA 0, 700, .inl ((rs_say v cn imf isz).1)))] : va_W) = [(mo, .inr (6, [.ref mw, .int (nI cnt), .ref mk, .ref mp, .ref mz, .ref me, .ref mtb, .ref my, .ref mx, .ref mu, .ref mn, .ref mg, .int hf, .int fro, .ref mf, .int (nI fsz), .ref mi, .int (nI is1), .int z, .ref mh, .ref mv, .int (nI rk), .long lf, .long lo, .ref ms])), (mi, .inl (cA 0, 700, .inl f1))] := by rw [e9_0, e9_1]
    exact W.vret hx hb hr (fun t9 ht9 hW9 => ⟨⟨(), rfl, trivial, by rw [ht9, e9]; exact hP9, by rw [e9]; exact hD9⟩, hS.F ht9⟩) hS.2.2 dX6_say_47
  · have c_1 : ¬ ((nI r - 1) < 0) := c_1
    obtain ⟨r1, rfl⟩ : ∃ r1, r = r1 + 1 := ⟨r - 1, by have := mt (ku_neg (a := r) (b := 1) (by omega) (by omega)).mpr c_1; omega⟩
    rw [nI_pred] at hl
    refine lv_aload_n hx hb dX6_say_10 rfl (lv_at hl 1 rfl) ?_
    refine va_get (D := (dC, dI)) (ci := 6) (v := .ref mi) (C := RX6) (T := TX6) (N := 25) hx hb hts inX6 hown hK hP 0 rfl rfl 16 (by decide) hk_0 (fun _ h9 => h9) rfl dX6_say_11 ?_
    refine lv_aload_n hx hb dX6_say_14 rfl (lv_at hl 1 rfl) ?_
    refine va_get (D := (dC, dI)) (ci := 6) (v := .int (nI is1)) (C := RX6) (T := TX6) (N := 25) hx hb hts inX6 hown hK hP 0 rfl rfl 17 (by decide) hk_1 (fun _ h9 => h9) rfl dX6_say_15 ?_
    refine lv_lload_n hx hb dX6_say_18 rfl (lv_at hl 2 rfl) ?_
    refine lv_bipush (v := 8) hx hb dX6_say_19 (by decide) ?_
    refine lv_iload hx hb dX6_say_21 (lv_at hl 0 rfl) ?_
    refine lv_imul hx hb dX6_say_23 ?_
    refine kt_i (y := nI (8 * r1)) (pk_mul 8 r1) ?_
    refine lv_lshr (v := jv_lshr v (nI (8 * r1))) hx hb dX6_say_24 rfl ?_
    refine lv_l2i (v := (jv_lshr v (nI (8 * r1))).toInt32) hx hb dX6_say_25 rfl ?_
    refine lv_sipush (v := 255) hx hb dX6_say_26 (by decide) ?_
    refine lv_iand hx hb dX6_say_29 ?_
    refine va_iast (D := (dC, dI)) hx hb hK hP hD hS 1 0 rfl rfl (vp_in_nI (by omega) (by omega)) dX6_say_30 (fun H locs hP hD hS => ?_)
    rw [nI_clamp (by omega : is1 < 2 ^ 31)] at hP hD
    have hP : va_P (dC, dI) vwCl [(mo, .inr (6, [.ref mw, .int (nI cnt), .ref mk, .ref mp, .ref mz, .ref me, .ref mtb, .ref my, .ref mx, .ref mu, .ref mn, .ref mg, .int hf, .int fro, .ref mf, .int (nI fsz), .ref mi, .int (nI is1), .int z, .ref mh, .ref mv, .int (nI rk), .long lf, .long lo, .ref ms])), (mi, .inl (cA 0, 700, .inl (upd f1 is1 (((jv_lshr v (nI (8 * r1))).toInt32) &&& 255))))] H := hP
    have hD : va_D A [(mo, .inr (6, [.ref mw, .int (nI cnt), .ref mk, .ref mp, .ref mz, .ref me, .ref mtb, .ref my, .ref mx, .ref mu, .ref mn, .ref mg, .int hf, .int fro, .ref mf, .int (nI fsz), .ref mi, .int (nI is1), .int z, .ref mh, .ref mv, .int (nI rk), .long lf, .long lo, .ref ms])), (mi, .inl (cA 0, 700, .inl (upd f1 is1 (((jv_lshr v (nI (8 * r1))).toInt32) &&& 255))))] := hD
    refine lv_aload_n hx hb dX6_say_31 rfl (lv_at hl 1 rfl) ?_
    refine lv_dup hx hb dX6_say_32 rfl ?_
    refine va_get (D := (dC, dI)) (ci := 6) (v := .int (nI is1)) (C := RX6) (T := TX6) (N := 25) hx hb hts inX6 hown hK hP 0 rfl rfl 17 (by decide) hk_1 (fun _ h9 => h9) rfl dX6_say_33 ?_
    refine lv_iconst (v := 1) hx hb dX6_say_36 (by decide) ?_
    refine lv_iadd hx hb dX6_say_37 ?_
    refine kt_i (y := nI (is1 + 1)) (nI_add is1 1) ?_
    refine va_put (D := (dC, dI)) (ci := 6) (v := .int (nI (is1 + 1))) (ty := .int) (C := RX6) (T := TX6) (N := 25) hx hb hts inX6 tyX6 tyX6_ok nmX6 hown hK hP hD hS 0 rfl rfl 17 (by decide) hk_1 (fun _ h9 => h9) rfl (by decide +kernel) rfl rfl (Nat.le_of_ble_eq_true rfl) dX6_say_38 (fun H locs hP hD hS => ?_)
    have hP : va_P (dC, dI) vwCl [(mo, .inr (6, [.ref mw, .int (nI cnt), .ref mk, .ref mp, .ref mz, .ref me, .ref mtb, .ref my, .ref mx, .ref mu, .ref mn, .ref mg, .int hf, .int fro, .ref mf, .int (nI fsz), .ref mi, .int (nI (is1 + 1)), .int z, .ref mh, .ref mv, .int (nI rk), .long lf, .long lo, .ref ms])), (mi, .inl (cA 0, 700, .inl (upd f1 is1 (((jv_lshr v (nI (8 * r1))).toInt32) &&& 255))))] H := hP
    have hD : va_D A [(mo, .inr (6, [.ref mw, .int (nI cnt), .ref mk, .ref mp, .ref mz, .ref me, .ref mtb, .ref my, .ref mx, .ref mu, .ref mn, .ref mg, .int hf, .int fro, .ref mf, .int (nI fsz), .ref mi, .int (nI (is1 + 1)), .int z, .ref mh, .ref mv, .int (nI rk), .long lf, .long lo, .ref ms])), (mi, .inl (cA 0, 700, .inl (upd f1 is1 (((jv_lshr v (nI (8 * r1))).toInt32) &&& 255))))] := hD
    refine lv_iinc (v := (nI r1) - 1) (lv' := [(4, .int ((nI r1) - 1)), (0, .ref mo), (1, .long v), (3, .int (nI cn))]) hx hb dX6_say_41 hl (k := 0) rfl (ku_dec _) (by decide) rfl (fun ls hl => ?_)
    refine lv_goto (tgt := 5) hx hb dX6_say_44 (by decide) ?_
    have hi_hr9 : r1 ≤ cn := (by omega)
    have hi_hle : (is1 + 1) + r1 ≤ 700 := (by omega)
    have hi_heq : rs_say v r1 (upd f1 is1 (((jv_lshr v (nI (8 * r1))).toInt32) &&& 255)) (is1 + 1) = rs_say v cn imf isz := (by rw [← heq]; rfl)
    have hl9 : lv_has ls 5 [(4, .int (nI r1 - 1)), (0, .ref mo), (1, .long v), (3, .int (nI cn))] := lv_sub hl [0, 1, 2, 3] rfl
    have hP9 : va_P (dC, dI) vwCl [(mo, .inr (6, [.ref mw, .int (nI cnt), .ref mk, .ref mp, .ref mz, .ref me, .ref mtb, .ref my, .ref mx, .ref mu, .ref mn, .ref mg, .int hf, .int fro, .ref mf, .int (nI fsz), .ref mi, .int (nI (is1 + 1)), .int z, .ref mh, .ref mv, .int (nI rk), .long lf, .long lo, .ref ms])), (mi, .inl (cA 0, 700, .inl (upd f1 is1 (((jv_lshr v (nI (8 * r1))).toInt32) &&& 255))))] H := hP
    have hD9 : va_D A [(mo, .inr (6, [.ref mw, .int (nI cnt), .ref mk, .ref mp, .ref mz, .ref me, .ref mtb, .ref my, .ref mx, .ref mu, .ref mn, .ref mg, .int hf, .int fro, .ref mf, .int (nI fsz), .ref mi, .int (nI (is1 + 1)), .int z, .ref mh, .ref mv, .int (nI rk), .long lf, .long lo, .ref ms])), (mi, .inl (cA 0, 700, .inl (upd f1 is1 (((jv_lshr v (nI (8 * r1))).toInt32) &&& 255))))] := hD
    exact ih_L0 r1 (is1 + 1) (upd f1 is1 (((jv_lshr v (nI (8 * r1))).toInt32) &&& 255)) H locs ls ⟨hi_hr9, hi_hle, hi_heq, hl9, hP9, hD9, hS⟩ (by show r1 < r1 + 1; omega)
set_option maxHeartbeats 4000000 in
set_option maxRecDepth 100000 in
theorem c_M_image_at (l : Launch) (dC : Nat → ClassId) (dI : Nat → Nat → Nat) (cA : Nat → ClassId) (sz : Nat) (mo : Nat) (mw : Nat) (mk : Nat) (mp : Nat) (mz : Nat) (me : Nat) (mtb : Nat) (my : Nat) (mx : Nat) (mu : Nat) (mn : Nat) (mg : Nat) (mf : Nat) (mi : Nat) (mh : Nat) (mv : Nat) (ms : Nat) (cnt : Nat) (hf : Int32) (fro : Int32) (fsz : Nat) (isz : Nat) (z : Int32) (rk : Nat) (lf : Int64) (lo : Int64) (kf : Nat → Int32) (pf : Nat → Int32) (zf : Nat → Int32) (ef : Nat → Int32) (xsf : Nat → Int32) (ouf : Nat → Int64) (tkf : Nat → Int32) (imf : Nat → Int32) (j : Nat) (K : Nat) (P : Nat) (S : Nat) (tk : Nat) (seed : Int32) (hj4 : j < 4) (hjc : j < cnt) (hc4 : cnt ≤ 4) (hkf : kf j = nI K) (hpf : pf j = nI P) (hzf : zf j = nI S) (hef : ef j = seed) (htf : tkf j = nI tk) (hS8 : S ≤ 8) (htk : tk ≤ 64) : Met l yX6_image (kw_X6_image) ({ frames := 1, cells := 0, slots := 0, locals := 25 }) (va_Pc [.ref mo, .int (nI j)] (fun U => kRW dC dI cA [(mo, .inr (6, [.ref mw, .int (nI cnt), .ref mk, .ref mp, .ref mz, .ref me, .ref mtb, .ref my, .ref mx, .ref mu, .ref mn, .ref mg, .int hf, .int fro, .ref mf, .int (nI fsz), .ref mi, .int (nI isz), .int z, .ref mh, .ref mv, .int (nI rk), .long lf, .long lo, .ref ms])), (mk, .inl (cA 0, 4, .inl kf)), (mp, .inl (cA 0, 4, .inl pf)), (mz, .inl (cA 0, 4, .inl zf)), (me, .inl (cA 0, 4, .inl ef)), (mx, .inl (cA 0, 256, .inl xsf)), (mu, .inl (cA 1, 256, .inr (.inl ouf))), (mn, .inl (cA 0, 4, .inl tkf)), (mi, .inl (cA 0, 700, .inl imf))] sz U)) (va_Qi (fun r (u : Unit) => r = nI (rs_im K P S seed tk j xsf ouf imf).2) (fun (u : Unit) t => kB dC dI (va_A [(mo, .inr (6, [.ref mw, .int (nI cnt), .ref mk, .ref mp, .ref mz, .ref me, .ref mtb, .ref my, .ref mx, .ref mu, .ref mn, .ref mg, .int hf, .int fro, .ref mf, .int (nI fsz), .ref mi, .int (nI isz), .int z, .ref mh, .ref mv, .int (nI rk), .long lf, .long lo, .ref ms])), (mk, .inl (cA 0, 4, .inl kf)), (mp, .inl (cA 0, 4, .inl pf)), (mz, .inl (cA 0, 4, .inl zf)), (me, .inl (cA 0, 4, .inl ef)), (mx, .inl (cA 0, 256, .inl xsf)), (mu, .inl (cA 1, 256, .inr (.inl ouf))), (mn, .inl (cA 0, 4, .inl tkf)), (mi, .inl (cA 0, 700, .inl imf))] sz) [(mo, .inr (6, [.ref mw, .int (nI cnt), .ref mk, .ref mp, .ref mz, .ref me, .ref mtb, .ref my, .ref mx, .ref mu, .ref mn, .ref mg, .int hf, .int fro, .ref mf, .int (nI fsz), .ref mi, .int (nI ((rs_im K P S seed tk j xsf ouf imf).2)), .int z, .ref mh, .ref mv, .int (nI rk), .long lf, .long lo, .ref ms])), (mk, .inl (cA 0, 4, .inl kf)), (mp, .inl (cA 0, 4, .inl pf)), (mz, .inl (cA 0, 4, .inl zf)), (me, .inl (cA 0, 4, .inl ef)), (mx, .inl (cA 0, 256, .inl xsf)), (mu, .inl (cA 1, 256, .inr (.inl ouf))), (mn, .inl (cA 0, 4, .inl tkf)), (mi, .inl (cA 0, 700, .inl ((rs_im K P S seed tk j xsf ouf imf).1)))] t) (va_A [(mo, .inr (6, [.ref mw, .int (nI cnt), .ref mk, .ref mp, .ref mz, .ref me, .ref mtb, .ref my, .ref mx, .ref mu, .ref mn, .ref mg, .int hf, .int fro, .ref mf, .int (nI fsz), .ref mi, .int (nI isz), .int z, .ref mh, .ref mv, .int (nI rk), .long lf, .long lo, .ref ms])), (mk, .inl (cA 0, 4, .inl kf)), (mp, .inl (cA 0, 4, .inl pf)), (mz, .inl (cA 0, 4, .inl zf)), (me, .inl (cA 0, 4, .inl ef)), (mx, .inl (cA 0, 256, .inl xsf)), (mu, .inl (cA 1, 256, .inr (.inl ouf))), (mn, .inl (cA 0, 4, .inl tkf)), (mi, .inl (cA 0, 700, .inl imf))] sz)) 0 0 (va_A [(mo, .inr (6, [.ref mw, .int (nI cnt), .ref mk, .ref mp, .ref mz, .ref me, .ref mtb, .ref my, .ref mx, .ref mu, .ref mn, .ref mg, .int hf, .int fro, .ref mf, .int (nI fsz), .ref mi, .int (nI isz), .int z, .ref mh, .ref mv, .int (nI rk), .long lf, .long lo, .ref ms])), (mk, .inl (cA 0, 4, .inl kf)), (mp, .inl (cA 0, 4, .inl pf)), (mz, .inl (cA 0, 4, .inl zf)), (me, .inl (cA 0, 4, .inl ef)), (mx, .inl (cA 0, 256, .inl xsf)), (mu, .inl (cA 1, 256, .inr (.inl ouf))), (mn, .inl (cA 0, 4, .inl tkf)), (mi, .inl (cA 0, 700, .inl imf))] sz) := by
  refine Met.ofW (cc := cX6_image) (maxL := 3) (ret := (some .int)) (by decide) rfl ?_
  intro p e s m args below meth c s₁ B hml hv
  obtain ⟨rfl, hsz, hP, hK, hN, hD0⟩ := hv
  have hx := B.exec
  have hb := B.bytes
  have hr := B.returns
  have hts0 := atoms_spec (ws := (kw_X6_image)) B.pre
  have hts : ∀ w ∈ TB, w.before _ s = true := fun w h => hts0 w (List.mem_cons_of_mem _ h)
  have hown : s.vm.findClass RX6 = some m.cls := findClass_of_methodNamed B.named
  have hlocks := B.notSynchronized
  subst hsz
  have hD := hD0.self (sz := s.heap.size)
  generalize hAe : va_A [(mo, .inr (6, [.ref mw, .int (nI cnt), .ref mk, .ref mp, .ref mz, .ref me, .ref mtb, .ref my, .ref mx, .ref mu, .ref mn, .ref mg, .int hf, .int fro, .ref mf, .int (nI fsz), .ref mi, .int (nI isz), .int z, .ref mh, .ref mv, .int (nI rk), .long lf, .long lo, .ref ms])), (mk, .inl (cA 0, 4, .inl kf)), (mp, .inl (cA 0, 4, .inl pf)), (mz, .inl (cA 0, 4, .inl zf)), (me, .inl (cA 0, 4, .inl ef)), (mx, .inl (cA 0, 256, .inl xsf)), (mu, .inl (cA 1, 256, .inr (.inl ouf))), (mn, .inl (cA 0, 4, .inl tkf)), (mi, .inl (cA 0, 700, .inl imf))] s.heap.size = A at hD ⊢
  have hA : ∀ q : Nat, s.heap.size ≤ q → A q := fun q h => by rw [← hAe]; exact Or.inr h
  have hS : va_S A s.heap s.heap [] := va_S.rf
  have hk_0 := hts (.fieldLink RX6 179 "FountainRowsModel" "imageSize" "I") tb_389
  have hk_1 := hts (.fieldLink RX6 13 "FountainRowsModel" "ks" "[I") tb_308
  have hk_2 := hts (.fieldLink RX6 16 "FountainRowsModel" "ps" "[I") tb_309
  have hk_3 := hts (.fieldLink RX6 19 "FountainRowsModel" "sizes" "[I") tb_310
  have hk_4 := hts (.fieldLink RX6 22 "FountainRowsModel" "seeds" "[I") tb_337
  have hk_5 := hts (.fieldLink RX6 38 "FountainRowsModel" "taken" "[I") tb_383
  have hk_6 := hts (.fieldLink RX6 47 "FountainRowsModel" "image" "[I") tb_390
  have hk_7 := hts (.fieldLink RX6 32 "FountainRowsModel" "xs" "[I") tb_374
  have hk_8 := hts (.fieldLink RX6 35 "FountainRowsModel" "outs" "[J") tb_384
  have hl := lv_entry ([.ref mo, .int (nI j)]) (n := 3) (Nat.le_of_ble_eq_true rfl)
  rw [lg_entry_eq]
  generalize (lg_sl ([.ref mo, .int (nI j)]) ++ List.replicate (3 - (lg_sl ([.ref mo, .int (nI j)])).length) Slot.unset).toArray = ls at hl ⊢
  have hl : lv_has ls 3 [(0, .ref mo), (1, .int (nI j))] := hl
  refine lv_aload_n hx hb dX6_image_0 rfl (lv_at hl 0 rfl) ?_
  refine lv_iload_n hx hb dX6_image_1 rfl (lv_at hl 1 rfl) ?_
  have hPc := hP.sub (ws' := [(mo, .inr (6, [.ref mw, .int (nI cnt), .ref mk, .ref mp, .ref mz, .ref me, .ref mtb, .ref my, .ref mx, .ref mu, .ref mn, .ref mg, .int hf, .int fro, .ref mf, .int (nI fsz), .ref mi, .int (nI isz), .int z, .ref mh, .ref mv, .int (nI rk), .long lf, .long lo, .ref ms]))]) [0] rfl
  refine kq_csi (va_runV (As := [.int (nI j)]) (rest := []) ⟨hx, hb, hml, hown, hts⟩ (c_M_isSource l dC dI cA mo mw mk mp mz me mtb my mx mu mn mg mf mi mh mv ms cnt hf fro fsz isz z rk lf lo (nI j)) (cwV 1 hts (kg_V tb_315 tb_316 tb_317 tb_318 tb_314) rfl rfl rfl (by decide +kernel) ⟨Nat.le_of_ble_eq_true rfl, Nat.le_of_ble_eq_true rfl⟩) (kpv_ro hK hN hPc (ci := 6) (q0 := 0) rfl rfl rfl) rfl rfl hl.1 rfl (lv_room (Nat.le_of_ble_eq_true rfl)) dX6_image_2 ⟨Nat.le_of_ble_eq_true rfl, Nat.le_of_ble_eq_true rfl⟩) (fun r_1 hr_1 => ?_)
  refine kt_i (y := sp_has cnt (nI j)) hr_1 ?_
  refine lv_if_ne (tgt := 10) hx hb dX6_image_5 (by decide) (fun c_2 => ?_) (fun c_2 => ?_)
  · have c_2 : ¬ ((sp_has cnt (nI j)) = 0) := c_2
    refine lv_aload_n hx hb dX6_image_10 rfl (lv_at hl 0 rfl) ?_
    refine lv_iconst (v := 0) hx hb dX6_image_11 (by decide) ?_
    refine va_put (D := (dC, dI)) (ci := 6) (v := .int 0) (ty := .int) (C := RX6) (T := TX6) (N := 25) hx hb hts inX6 tyX6 tyX6_ok nmX6 hown hK hP hD hS 0 rfl rfl 17 (by decide) hk_0 (fun _ h9 => h9) rfl (by decide +kernel) rfl rfl (Nat.le_of_ble_eq_true rfl) dX6_image_12 (fun H locs hP hD hS => ?_)
    have hP : va_P (dC, dI) vwCl [(mo, .inr (6, [.ref mw, .int (nI cnt), .ref mk, .ref mp, .ref mz, .ref me, .ref mtb, .ref my, .ref mx, .ref mu, .ref mn, .ref mg, .int hf, .int fro, .ref mf, .int (nI fsz), .ref mi, .int 0, .int z, .ref mh, .ref mv, .int (nI rk), .long lf, .long lo, .ref ms])), (mk, .inl (cA 0, 4, .inl kf)), (mp, .inl (cA 0, 4, .inl pf)), (mz, .inl (cA 0, 4, .inl zf)), (me, .inl (cA 0, 4, .inl ef)), (mx, .inl (cA 0, 256, .inl xsf)), (mu, .inl (cA 1, 256, .inr (.inl ouf))), (mn, .inl (cA 0, 4, .inl tkf)), (mi, .inl (cA 0, 700, .inl imf))] H := hP
    have hD : va_D A [(mo, .inr (6, [.ref mw, .int (nI cnt), .ref mk, .ref mp, .ref mz, .ref me, .ref mtb, .ref my, .ref mx, .ref mu, .ref mn, .ref mg, .int hf, .int fro, .ref mf, .int (nI fsz), .ref mi, .int 0, .int z, .ref mh, .ref mv, .int (nI rk), .long lf, .long lo, .ref ms])), (mk, .inl (cA 0, 4, .inl kf)), (mp, .inl (cA 0, 4, .inl pf)), (mz, .inl (cA 0, 4, .inl zf)), (me, .inl (cA 0, 4, .inl ef)), (mx, .inl (cA 0, 256, .inl xsf)), (mu, .inl (cA 1, 256, .inr (.inl ouf))), (mn, .inl (cA 0, 4, .inl tkf)), (mi, .inl (cA 0, 700, .inl imf))] := hD
    refine lv_aload_n hx hb dX6_image_15 rfl (lv_at hl 0 rfl) ?_
    refine lv_aload_n hx hb dX6_image_16 rfl (lv_at hl 0 rfl) ?_
    refine va_get (D := (dC, dI)) (ci := 6) (v := .ref mk) (C := RX6) (T := TX6) (N := 25) hx hb hts inX6 hown hK hP 0 rfl rfl 2 (by decide) hk_1 (fun _ h9 => h9) rfl dX6_image_17 ?_
    refine lv_iload_n hx hb dX6_image_20 rfl (lv_at hl 1 rfl) ?_
    refine va_iald (D := (dC, dI)) hx hb hK hP 1 0 rfl rfl (vp_in_nI hj4 (by omega)) dX6_image_21 ?_
    refine kt_i (congrArg kf (nI_clamp (by omega : j < 2 ^ 31))) ?_
    refine kt_i (y := nI K) hkf ?_
    refine lv_i2l (v := (nI K).toInt64) hx hb dX6_image_22 rfl ?_
    refine lv_iconst (v := 1) hx hb dX6_image_23 (by decide) ?_
    have hPc := hP.sub (ws' := [(mo, .inr (6, [.ref mw, .int (nI cnt), .ref mk, .ref mp, .ref mz, .ref me, .ref mtb, .ref my, .ref mx, .ref mu, .ref mn, .ref mg, .int hf, .int fro, .ref mf, .int (nI fsz), .ref mi, .int (nI 0), .int z, .ref mh, .ref mv, .int (nI rk), .long lf, .long lo, .ref ms])), (mi, .inl (cA 0, 700, .inl imf))]) [0, 8] rfl
    have hDc := hD.sub (ws' := [(mo, .inr (6, [.ref mw, .int (nI cnt), .ref mk, .ref mp, .ref mz, .ref me, .ref mtb, .ref my, .ref mx, .ref mu, .ref mn, .ref mg, .int hf, .int fro, .ref mf, .int (nI fsz), .ref mi, .int (nI 0), .int z, .ref mh, .ref mv, .int (nI rk), .long lf, .long lo, .ref ms])), (mi, .inl (cA 0, 700, .inl imf))]) [0, 8] (by decide) rfl
    have hFc := va_free (wc := [(mo, .inr (6, [.ref mw, .int (nI cnt), .ref mk, .ref mp, .ref mz, .ref me, .ref mtb, .ref my, .ref mx, .ref mu, .ref mn, .ref mg, .int hf, .int fro, .ref mf, .int (nI fsz), .ref mi, .int (nI 0), .int z, .ref mh, .ref mv, .int (nI rk), .long lf, .long lo, .ref ms])), (mi, .inl (cA 0, 700, .inl imf))]) hD hS hA [0, 8] rfl
    refine va_callv (va_runV (As := [.long ((nI K).toInt64), .int (nI 1)]) (rest := []) ⟨hx, hb, hml, hown, hts⟩ (c_M_say l dC dI cA H.size mo mw mk mp mz me mtb my mx mu mn mg mf mi mh mv ms cnt hf fro fsz 0 z rk lf lo imf ((nI K).toInt64) 1 (by omega)) (cwV 2 hts (kg_V tb_392 tb_393 tb_394 tb_318 tb_391) rfl rfl rfl (by decide +kernel) ⟨Nat.le_of_ble_eq_true rfl, Nat.le_of_ble_eq_true rfl⟩) (kpv_rw hK hN hPc hDc (ci := 6) (q0 := 0) rfl rfl rfl) rfl rfl hl.1 rfl (lv_room (Nat.le_of_ble_eq_true rfl)) dX6_image_24 ⟨Nat.le_of_ble_eq_true rfl, Nat.le_of_ble_eq_true rfl⟩) hS (fun q _ h => hFc q h) hFc (fun u9 t9 H1 locs ht9 hvm9 hr_3 hB hz1 hk1 hS => ?_)
    obtain ⟨hP1, hD1⟩ := hB
    rw [ht9] at hP1
    obtain ⟨hP, hD⟩ := va_join (wr := [(mk, .inl (cA 0, 4, .inl kf)), (mp, .inl (cA 0, 4, .inl pf)), (mz, .inl (cA 0, 4, .inl zf)), (me, .inl (cA 0, 4, .inl ef)), (mx, .inl (cA 0, 256, .inl xsf)), (mu, .inl (cA 1, 256, .inr (.inl ouf))), (mn, .inl (cA 0, 4, .inl tkf))]) (w1 := [(mo, .inr (6, [.ref mw, .int (nI cnt), .ref mk, .ref mp, .ref mz, .ref me, .ref mtb, .ref my, .ref mx, .ref mu, .ref mn, .ref mg, .int hf, .int fro, .ref mf, .int (nI fsz), .ref mi, .int (nI ((rs_say ((nI K).toInt64) 1 imf 0).2)), .int z, .ref mh, .ref mv, .int (nI rk), .long lf, .long lo, .ref ms])), (mi, .inl (cA 0, 700, .inl ((rs_say ((nI K).toInt64) 1 imf 0).1)))]) hP hD [0, 8] [1, 2, 3, 4, 5, 6, 7] rfl rfl (by decide) (by decide) hk1 hFc hP1 hD1
    generalize H1 = H at hP hS ⊢
    have hP : va_P (dC, dI) vwCl [(mk, .inl (cA 0, 4, .inl kf)), (mp, .inl (cA 0, 4, .inl pf)), (mz, .inl (cA 0, 4, .inl zf)), (me, .inl (cA 0, 4, .inl ef)), (mx, .inl (cA 0, 256, .inl xsf)), (mu, .inl (cA 1, 256, .inr (.inl ouf))), (mn, .inl (cA 0, 4, .inl tkf)), (mo, .inr (6, [.ref mw, .int (nI cnt), .ref mk, .ref mp, .ref mz, .ref me, .ref mtb, .ref my, .ref mx, .ref mu, .ref mn, .ref mg, .int hf, .int fro, .ref mf, .int (nI fsz), .ref mi, .int (nI ((rs_say ((nI K).toInt64) 1 imf 0).2)), .int z, .ref mh, .ref mv, .int (nI rk), .long lf, .long lo, .ref ms])), (mi, .inl (cA 0, 700, .inl ((rs_say ((nI K).toInt64) 1 imf 0).1)))] H := hP
    have hD : va_D A [(mk, .inl (cA 0, 4, .inl kf)), (mp, .inl (cA 0, 4, .inl pf)), (mz, .inl (cA 0, 4, .inl zf)), (me, .inl (cA 0, 4, .inl ef)), (mx, .inl (cA 0, 256, .inl xsf)), (mu, .inl (cA 1, 256, .inr (.inl ouf))), (mn, .inl (cA 0, 4, .inl tkf)), (mo, .inr (6, [.ref mw, .int (nI cnt), .ref mk, .ref mp, .ref mz, .ref me, .ref mtb, .ref my, .ref mx, .ref mu, .ref mn, .ref mg, .int hf, .int fro, .ref mf, .int (nI fsz), .ref mi, .int (nI ((rs_say ((nI K).toInt64) 1 imf 0).2)), .int z, .ref mh, .ref mv, .int (nI rk), .long lf, .long lo, .ref ms])), (mi, .inl (cA 0, 700, .inl ((rs_say ((nI K).toInt64) 1 imf 0).1)))] := hD
    obtain ⟨Ba, hBa⟩ : ∃ z, z = rs_say ((nI K).toInt64) 1 imf 0 := ⟨_, rfl⟩
    rw [← hBa] at hP hD
    have hBa2 : Ba.2 = 0 + 1 := by rw [hBa, rs_say_2]
    have hP : va_P (dC, dI) vwCl [(mk, .inl (cA 0, 4, .inl kf)), (mp, .inl (cA 0, 4, .inl pf)), (mz, .inl (cA 0, 4, .inl zf)), (me, .inl (cA 0, 4, .inl ef)), (mx, .inl (cA 0, 256, .inl xsf)), (mu, .inl (cA 1, 256, .inr (.inl ouf))), (mn, .inl (cA 0, 4, .inl tkf)), (mo, .inr (6, [.ref mw, .int (nI cnt), .ref mk, .ref mp, .ref mz, .ref me, .ref mtb, .ref my, .ref mx, .ref mu, .ref mn, .ref mg, .int hf, .int fro, .ref mf, .int (nI fsz), .ref mi, .int (nI Ba.2), .int z, .ref mh, .ref mv, .int (nI rk), .long lf, .long lo, .ref ms])), (mi, .inl (cA 0, 700, .inl Ba.1))] H := hP
    have hD : va_D A [(mk, .inl (cA 0, 4, .inl kf)), (mp, .inl (cA 0, 4, .inl pf)), (mz, .inl (cA 0, 4, .inl zf)), (me, .inl (cA 0, 4, .inl ef)), (mx, .inl (cA 0, 256, .inl xsf)), (mu, .inl (cA 1, 256, .inr (.inl ouf))), (mn, .inl (cA 0, 4, .inl tkf)), (mo, .inr (6, [.ref mw, .int (nI cnt), .ref mk, .ref mp, .ref mz, .ref me, .ref mtb, .ref my, .ref mx, .ref mu, .ref mn, .ref mg, .int hf, .int fro, .ref mf, .int (nI fsz), .ref mi, .int (nI Ba.2), .int z, .ref mh, .ref mv, .int (nI rk), .long lf, .long lo, .ref ms])), (mi, .inl (cA 0, 700, .inl Ba.1))] := hD
    refine lv_aload_n hx hb dX6_image_27 rfl (lv_at hl 0 rfl) ?_
    refine lv_aload_n hx hb dX6_image_28 rfl (lv_at hl 0 rfl) ?_
    refine va_get (D := (dC, dI)) (ci := 6) (v := .ref mp) (C := RX6) (T := TX6) (N := 25) hx hb hts inX6 hown hK hP 7 rfl rfl 3 (by decide) hk_2 (fun _ h9 => h9) rfl dX6_image_29 ?_
    refine lv_iload_n hx hb dX6_image_32 rfl (lv_at hl 1 rfl) ?_
    refine va_iald (D := (dC, dI)) hx hb hK hP 1 0 rfl rfl (vp_in_nI hj4 (by omega)) dX6_image_33 ?_
    refine kt_i (congrArg pf (nI_clamp (by omega : j < 2 ^ 31))) ?_
    refine kt_i (y := nI P) hpf ?_
    refine lv_i2l (v := (nI P).toInt64) hx hb dX6_image_34 rfl ?_
    refine lv_iconst (v := 1) hx hb dX6_image_35 (by decide) ?_
    have hPc := hP.sub (ws' := [(mo, .inr (6, [.ref mw, .int (nI cnt), .ref mk, .ref mp, .ref mz, .ref me, .ref mtb, .ref my, .ref mx, .ref mu, .ref mn, .ref mg, .int hf, .int fro, .ref mf, .int (nI fsz), .ref mi, .int (nI Ba.2), .int z, .ref mh, .ref mv, .int (nI rk), .long lf, .long lo, .ref ms])), (mi, .inl (cA 0, 700, .inl Ba.1))]) [7, 8] rfl
    have hDc := hD.sub (ws' := [(mo, .inr (6, [.ref mw, .int (nI cnt), .ref mk, .ref mp, .ref mz, .ref me, .ref mtb, .ref my, .ref mx, .ref mu, .ref mn, .ref mg, .int hf, .int fro, .ref mf, .int (nI fsz), .ref mi, .int (nI Ba.2), .int z, .ref mh, .ref mv, .int (nI rk), .long lf, .long lo, .ref ms])), (mi, .inl (cA 0, 700, .inl Ba.1))]) [7, 8] (by decide) rfl
    have hFc := va_free (wc := [(mo, .inr (6, [.ref mw, .int (nI cnt), .ref mk, .ref mp, .ref mz, .ref me, .ref mtb, .ref my, .ref mx, .ref mu, .ref mn, .ref mg, .int hf, .int fro, .ref mf, .int (nI fsz), .ref mi, .int (nI Ba.2), .int z, .ref mh, .ref mv, .int (nI rk), .long lf, .long lo, .ref ms])), (mi, .inl (cA 0, 700, .inl Ba.1))]) hD hS hA [7, 8] rfl
    refine va_callv (va_runV (As := [.long ((nI P).toInt64), .int (nI 1)]) (rest := []) ⟨hx, hb, hml, hown, hts⟩ (c_M_say l dC dI cA H.size mo mw mk mp mz me mtb my mx mu mn mg mf mi mh mv ms cnt hf fro fsz Ba.2 z rk lf lo Ba.1 ((nI P).toInt64) 1 (by omega)) (cwV 2 hts (kg_V tb_392 tb_393 tb_394 tb_318 tb_391) rfl rfl rfl (by decide +kernel) ⟨Nat.le_of_ble_eq_true rfl, Nat.le_of_ble_eq_true rfl⟩) (kpv_rw hK hN hPc hDc (ci := 6) (q0 := 0) rfl rfl rfl) rfl rfl hl.1 rfl (lv_room (Nat.le_of_ble_eq_true rfl)) dX6_image_36 ⟨Nat.le_of_ble_eq_true rfl, Nat.le_of_ble_eq_true rfl⟩) hS (fun q _ h => hFc q h) hFc (fun u9 t9 H1 locs ht9 hvm9 hr_4 hB hz1 hk1 hS => ?_)
    obtain ⟨hP1, hD1⟩ := hB
    rw [ht9] at hP1
    obtain ⟨hP, hD⟩ := va_join (wr := [(mk, .inl (cA 0, 4, .inl kf)), (mp, .inl (cA 0, 4, .inl pf)), (mz, .inl (cA 0, 4, .inl zf)), (me, .inl (cA 0, 4, .inl ef)), (mx, .inl (cA 0, 256, .inl xsf)), (mu, .inl (cA 1, 256, .inr (.inl ouf))), (mn, .inl (cA 0, 4, .inl tkf))]) (w1 := [(mo, .inr (6, [.ref mw, .int (nI cnt), .ref mk, .ref mp, .ref mz, .ref me, .ref mtb, .ref my, .ref mx, .ref mu, .ref mn, .ref mg, .int hf, .int fro, .ref mf, .int (nI fsz), .ref mi, .int (nI ((rs_say ((nI P).toInt64) 1 Ba.1 Ba.2).2)), .int z, .ref mh, .ref mv, .int (nI rk), .long lf, .long lo, .ref ms])), (mi, .inl (cA 0, 700, .inl ((rs_say ((nI P).toInt64) 1 Ba.1 Ba.2).1)))]) hP hD [7, 8] [0, 1, 2, 3, 4, 5, 6] rfl rfl (by decide) (by decide) hk1 hFc hP1 hD1
    generalize H1 = H at hP hS ⊢
    have hP : va_P (dC, dI) vwCl [(mk, .inl (cA 0, 4, .inl kf)), (mp, .inl (cA 0, 4, .inl pf)), (mz, .inl (cA 0, 4, .inl zf)), (me, .inl (cA 0, 4, .inl ef)), (mx, .inl (cA 0, 256, .inl xsf)), (mu, .inl (cA 1, 256, .inr (.inl ouf))), (mn, .inl (cA 0, 4, .inl tkf)), (mo, .inr (6, [.ref mw, .int (nI cnt), .ref mk, .ref mp, .ref mz, .ref me, .ref mtb, .ref my, .ref mx, .ref mu, .ref mn, .ref mg, .int hf, .int fro, .ref mf, .int (nI fsz), .ref mi, .int (nI ((rs_say ((nI P).toInt64) 1 Ba.1 Ba.2).2)), .int z, .ref mh, .ref mv, .int (nI rk), .long lf, .long lo, .ref ms])), (mi, .inl (cA 0, 700, .inl ((rs_say ((nI P).toInt64) 1 Ba.1 Ba.2).1)))] H := hP
    have hD : va_D A [(mk, .inl (cA 0, 4, .inl kf)), (mp, .inl (cA 0, 4, .inl pf)), (mz, .inl (cA 0, 4, .inl zf)), (me, .inl (cA 0, 4, .inl ef)), (mx, .inl (cA 0, 256, .inl xsf)), (mu, .inl (cA 1, 256, .inr (.inl ouf))), (mn, .inl (cA 0, 4, .inl tkf)), (mo, .inr (6, [.ref mw, .int (nI cnt), .ref mk, .ref mp, .ref mz, .ref me, .ref mtb, .ref my, .ref mx, .ref mu, .ref mn, .ref mg, .int hf, .int fro, .ref mf, .int (nI fsz), .ref mi, .int (nI ((rs_say ((nI P).toInt64) 1 Ba.1 Ba.2).2)), .int z, .ref mh, .ref mv, .int (nI rk), .long lf, .long lo, .ref ms])), (mi, .inl (cA 0, 700, .inl ((rs_say ((nI P).toInt64) 1 Ba.1 Ba.2).1)))] := hD
    obtain ⟨Bb, hBb⟩ : ∃ z, z = rs_say ((nI P).toInt64) 1 Ba.1 Ba.2 := ⟨_, rfl⟩
    rw [← hBb] at hP hD
    have hBb2 : Bb.2 = Ba.2 + 1 := by rw [hBb, rs_say_2]
    have hP : va_P (dC, dI) vwCl [(mk, .inl (cA 0, 4, .inl kf)), (mp, .inl (cA 0, 4, .inl pf)), (mz, .inl (cA 0, 4, .inl zf)), (me, .inl (cA 0, 4, .inl ef)), (mx, .inl (cA 0, 256, .inl xsf)), (mu, .inl (cA 1, 256, .inr (.inl ouf))), (mn, .inl (cA 0, 4, .inl tkf)), (mo, .inr (6, [.ref mw, .int (nI cnt), .ref mk, .ref mp, .ref mz, .ref me, .ref mtb, .ref my, .ref mx, .ref mu, .ref mn, .ref mg, .int hf, .int fro, .ref mf, .int (nI fsz), .ref mi, .int (nI Bb.2), .int z, .ref mh, .ref mv, .int (nI rk), .long lf, .long lo, .ref ms])), (mi, .inl (cA 0, 700, .inl Bb.1))] H := hP
    have hD : va_D A [(mk, .inl (cA 0, 4, .inl kf)), (mp, .inl (cA 0, 4, .inl pf)), (mz, .inl (cA 0, 4, .inl zf)), (me, .inl (cA 0, 4, .inl ef)), (mx, .inl (cA 0, 256, .inl xsf)), (mu, .inl (cA 1, 256, .inr (.inl ouf))), (mn, .inl (cA 0, 4, .inl tkf)), (mo, .inr (6, [.ref mw, .int (nI cnt), .ref mk, .ref mp, .ref mz, .ref me, .ref mtb, .ref my, .ref mx, .ref mu, .ref mn, .ref mg, .int hf, .int fro, .ref mf, .int (nI fsz), .ref mi, .int (nI Bb.2), .int z, .ref mh, .ref mv, .int (nI rk), .long lf, .long lo, .ref ms])), (mi, .inl (cA 0, 700, .inl Bb.1))] := hD
    refine lv_aload_n hx hb dX6_image_39 rfl (lv_at hl 0 rfl) ?_
    refine lv_aload_n hx hb dX6_image_40 rfl (lv_at hl 0 rfl) ?_
    refine va_get (D := (dC, dI)) (ci := 6) (v := .ref mz) (C := RX6) (T := TX6) (N := 25) hx hb hts inX6 hown hK hP 7 rfl rfl 4 (by decide) hk_3 (fun _ h9 => h9) rfl dX6_image_41 ?_
    refine lv_iload_n hx hb dX6_image_44 rfl (lv_at hl 1 rfl) ?_
    refine va_iald (D := (dC, dI)) hx hb hK hP 2 0 rfl rfl (vp_in_nI hj4 (by omega)) dX6_image_45 ?_
    refine kt_i (congrArg zf (nI_clamp (by omega : j < 2 ^ 31))) ?_
    refine kt_i (y := nI S) hzf ?_
    refine lv_i2l (v := (nI S).toInt64) hx hb dX6_image_46 rfl ?_
    refine lv_iconst (v := 1) hx hb dX6_image_47 (by decide) ?_
    have hPc := hP.sub (ws' := [(mo, .inr (6, [.ref mw, .int (nI cnt), .ref mk, .ref mp, .ref mz, .ref me, .ref mtb, .ref my, .ref mx, .ref mu, .ref mn, .ref mg, .int hf, .int fro, .ref mf, .int (nI fsz), .ref mi, .int (nI Bb.2), .int z, .ref mh, .ref mv, .int (nI rk), .long lf, .long lo, .ref ms])), (mi, .inl (cA 0, 700, .inl Bb.1))]) [7, 8] rfl
    have hDc := hD.sub (ws' := [(mo, .inr (6, [.ref mw, .int (nI cnt), .ref mk, .ref mp, .ref mz, .ref me, .ref mtb, .ref my, .ref mx, .ref mu, .ref mn, .ref mg, .int hf, .int fro, .ref mf, .int (nI fsz), .ref mi, .int (nI Bb.2), .int z, .ref mh, .ref mv, .int (nI rk), .long lf, .long lo, .ref ms])), (mi, .inl (cA 0, 700, .inl Bb.1))]) [7, 8] (by decide) rfl
    have hFc := va_free (wc := [(mo, .inr (6, [.ref mw, .int (nI cnt), .ref mk, .ref mp, .ref mz, .ref me, .ref mtb, .ref my, .ref mx, .ref mu, .ref mn, .ref mg, .int hf, .int fro, .ref mf, .int (nI fsz), .ref mi, .int (nI Bb.2), .int z, .ref mh, .ref mv, .int (nI rk), .long lf, .long lo, .ref ms])), (mi, .inl (cA 0, 700, .inl Bb.1))]) hD hS hA [7, 8] rfl
    refine va_callv (va_runV (As := [.long ((nI S).toInt64), .int (nI 1)]) (rest := []) ⟨hx, hb, hml, hown, hts⟩ (c_M_say l dC dI cA H.size mo mw mk mp mz me mtb my mx mu mn mg mf mi mh mv ms cnt hf fro fsz Bb.2 z rk lf lo Bb.1 ((nI S).toInt64) 1 (by omega)) (cwV 2 hts (kg_V tb_392 tb_393 tb_394 tb_318 tb_391) rfl rfl rfl (by decide +kernel) ⟨Nat.le_of_ble_eq_true rfl, Nat.le_of_ble_eq_true rfl⟩) (kpv_rw hK hN hPc hDc (ci := 6) (q0 := 0) rfl rfl rfl) rfl rfl hl.1 rfl (lv_room (Nat.le_of_ble_eq_true rfl)) dX6_image_48 ⟨Nat.le_of_ble_eq_true rfl, Nat.le_of_ble_eq_true rfl⟩) hS (fun q _ h => hFc q h) hFc (fun u9 t9 H1 locs ht9 hvm9 hr_5 hB hz1 hk1 hS => ?_)
    obtain ⟨hP1, hD1⟩ := hB
    rw [ht9] at hP1
    obtain ⟨hP, hD⟩ := va_join (wr := [(mk, .inl (cA 0, 4, .inl kf)), (mp, .inl (cA 0, 4, .inl pf)), (mz, .inl (cA 0, 4, .inl zf)), (me, .inl (cA 0, 4, .inl ef)), (mx, .inl (cA 0, 256, .inl xsf)), (mu, .inl (cA 1, 256, .inr (.inl ouf))), (mn, .inl (cA 0, 4, .inl tkf))]) (w1 := [(mo, .inr (6, [.ref mw, .int (nI cnt), .ref mk, .ref mp, .ref mz, .ref me, .ref mtb, .ref my, .ref mx, .ref mu, .ref mn, .ref mg, .int hf, .int fro, .ref mf, .int (nI fsz), .ref mi, .int (nI ((rs_say ((nI S).toInt64) 1 Bb.1 Bb.2).2)), .int z, .ref mh, .ref mv, .int (nI rk), .long lf, .long lo, .ref ms])), (mi, .inl (cA 0, 700, .inl ((rs_say ((nI S).toInt64) 1 Bb.1 Bb.2).1)))]) hP hD [7, 8] [0, 1, 2, 3, 4, 5, 6] rfl rfl (by decide) (by decide) hk1 hFc hP1 hD1
    generalize H1 = H at hP hS ⊢
    have hP : va_P (dC, dI) vwCl [(mk, .inl (cA 0, 4, .inl kf)), (mp, .inl (cA 0, 4, .inl pf)), (mz, .inl (cA 0, 4, .inl zf)), (me, .inl (cA 0, 4, .inl ef)), (mx, .inl (cA 0, 256, .inl xsf)), (mu, .inl (cA 1, 256, .inr (.inl ouf))), (mn, .inl (cA 0, 4, .inl tkf)), (mo, .inr (6, [.ref mw, .int (nI cnt), .ref mk, .ref mp, .ref mz, .ref me, .ref mtb, .ref my, .ref mx, .ref mu, .ref mn, .ref mg, .int hf, .int fro, .ref mf, .int (nI fsz), .ref mi, .int (nI ((rs_say ((nI S).toInt64) 1 Bb.1 Bb.2).2)), .int z, .ref mh, .ref mv, .int (nI rk), .long lf, .long lo, .ref ms])), (mi, .inl (cA 0, 700, .inl ((rs_say ((nI S).toInt64) 1 Bb.1 Bb.2).1)))] H := hP
    have hD : va_D A [(mk, .inl (cA 0, 4, .inl kf)), (mp, .inl (cA 0, 4, .inl pf)), (mz, .inl (cA 0, 4, .inl zf)), (me, .inl (cA 0, 4, .inl ef)), (mx, .inl (cA 0, 256, .inl xsf)), (mu, .inl (cA 1, 256, .inr (.inl ouf))), (mn, .inl (cA 0, 4, .inl tkf)), (mo, .inr (6, [.ref mw, .int (nI cnt), .ref mk, .ref mp, .ref mz, .ref me, .ref mtb, .ref my, .ref mx, .ref mu, .ref mn, .ref mg, .int hf, .int fro, .ref mf, .int (nI fsz), .ref mi, .int (nI ((rs_say ((nI S).toInt64) 1 Bb.1 Bb.2).2)), .int z, .ref mh, .ref mv, .int (nI rk), .long lf, .long lo, .ref ms])), (mi, .inl (cA 0, 700, .inl ((rs_say ((nI S).toInt64) 1 Bb.1 Bb.2).1)))] := hD
    obtain ⟨Bc, hBc⟩ : ∃ z, z = rs_say ((nI S).toInt64) 1 Bb.1 Bb.2 := ⟨_, rfl⟩
    rw [← hBc] at hP hD
    have hBc2 : Bc.2 = Bb.2 + 1 := by rw [hBc, rs_say_2]
    have hP : va_P (dC, dI) vwCl [(mk, .inl (cA 0, 4, .inl kf)), (mp, .inl (cA 0, 4, .inl pf)), (mz, .inl (cA 0, 4, .inl zf)), (me, .inl (cA 0, 4, .inl ef)), (mx, .inl (cA 0, 256, .inl xsf)), (mu, .inl (cA 1, 256, .inr (.inl ouf))), (mn, .inl (cA 0, 4, .inl tkf)), (mo, .inr (6, [.ref mw, .int (nI cnt), .ref mk, .ref mp, .ref mz, .ref me, .ref mtb, .ref my, .ref mx, .ref mu, .ref mn, .ref mg, .int hf, .int fro, .ref mf, .int (nI fsz), .ref mi, .int (nI Bc.2), .int z, .ref mh, .ref mv, .int (nI rk), .long lf, .long lo, .ref ms])), (mi, .inl (cA 0, 700, .inl Bc.1))] H := hP
    have hD : va_D A [(mk, .inl (cA 0, 4, .inl kf)), (mp, .inl (cA 0, 4, .inl pf)), (mz, .inl (cA 0, 4, .inl zf)), (me, .inl (cA 0, 4, .inl ef)), (mx, .inl (cA 0, 256, .inl xsf)), (mu, .inl (cA 1, 256, .inr (.inl ouf))), (mn, .inl (cA 0, 4, .inl tkf)), (mo, .inr (6, [.ref mw, .int (nI cnt), .ref mk, .ref mp, .ref mz, .ref me, .ref mtb, .ref my, .ref mx, .ref mu, .ref mn, .ref mg, .int hf, .int fro, .ref mf, .int (nI fsz), .ref mi, .int (nI Bc.2), .int z, .ref mh, .ref mv, .int (nI rk), .long lf, .long lo, .ref ms])), (mi, .inl (cA 0, 700, .inl Bc.1))] := hD
    refine lv_aload_n hx hb dX6_image_51 rfl (lv_at hl 0 rfl) ?_
    refine lv_aload_n hx hb dX6_image_52 rfl (lv_at hl 0 rfl) ?_
    refine va_get (D := (dC, dI)) (ci := 6) (v := .ref me) (C := RX6) (T := TX6) (N := 25) hx hb hts inX6 hown hK hP 7 rfl rfl 5 (by decide) hk_4 (fun _ h9 => h9) rfl dX6_image_53 ?_
    refine lv_iload_n hx hb dX6_image_56 rfl (lv_at hl 1 rfl) ?_
    refine va_iald (D := (dC, dI)) hx hb hK hP 3 0 rfl rfl (vp_in_nI hj4 (by omega)) dX6_image_57 ?_
    refine kt_i (congrArg ef (nI_clamp (by omega : j < 2 ^ 31))) ?_
    refine kt_i (y := seed) hef ?_
    refine lv_i2l (v := seed.toInt64) hx hb dX6_image_58 rfl ?_
    refine lv_iconst (v := 4) hx hb dX6_image_59 (by decide) ?_
    have hPc := hP.sub (ws' := [(mo, .inr (6, [.ref mw, .int (nI cnt), .ref mk, .ref mp, .ref mz, .ref me, .ref mtb, .ref my, .ref mx, .ref mu, .ref mn, .ref mg, .int hf, .int fro, .ref mf, .int (nI fsz), .ref mi, .int (nI Bc.2), .int z, .ref mh, .ref mv, .int (nI rk), .long lf, .long lo, .ref ms])), (mi, .inl (cA 0, 700, .inl Bc.1))]) [7, 8] rfl
    have hDc := hD.sub (ws' := [(mo, .inr (6, [.ref mw, .int (nI cnt), .ref mk, .ref mp, .ref mz, .ref me, .ref mtb, .ref my, .ref mx, .ref mu, .ref mn, .ref mg, .int hf, .int fro, .ref mf, .int (nI fsz), .ref mi, .int (nI Bc.2), .int z, .ref mh, .ref mv, .int (nI rk), .long lf, .long lo, .ref ms])), (mi, .inl (cA 0, 700, .inl Bc.1))]) [7, 8] (by decide) rfl
    have hFc := va_free (wc := [(mo, .inr (6, [.ref mw, .int (nI cnt), .ref mk, .ref mp, .ref mz, .ref me, .ref mtb, .ref my, .ref mx, .ref mu, .ref mn, .ref mg, .int hf, .int fro, .ref mf, .int (nI fsz), .ref mi, .int (nI Bc.2), .int z, .ref mh, .ref mv, .int (nI rk), .long lf, .long lo, .ref ms])), (mi, .inl (cA 0, 700, .inl Bc.1))]) hD hS hA [7, 8] rfl
    refine va_callv (va_runV (As := [.long seed.toInt64, .int (nI 4)]) (rest := []) ⟨hx, hb, hml, hown, hts⟩ (c_M_say l dC dI cA H.size mo mw mk mp mz me mtb my mx mu mn mg mf mi mh mv ms cnt hf fro fsz Bc.2 z rk lf lo Bc.1 seed.toInt64 4 (by omega)) (cwV 2 hts (kg_V tb_392 tb_393 tb_394 tb_318 tb_391) rfl rfl rfl (by decide +kernel) ⟨Nat.le_of_ble_eq_true rfl, Nat.le_of_ble_eq_true rfl⟩) (kpv_rw hK hN hPc hDc (ci := 6) (q0 := 0) rfl rfl rfl) rfl rfl hl.1 rfl (lv_room (Nat.le_of_ble_eq_true rfl)) dX6_image_60 ⟨Nat.le_of_ble_eq_true rfl, Nat.le_of_ble_eq_true rfl⟩) hS (fun q _ h => hFc q h) hFc (fun u9 t9 H1 locs ht9 hvm9 hr_6 hB hz1 hk1 hS => ?_)
    obtain ⟨hP1, hD1⟩ := hB
    rw [ht9] at hP1
    obtain ⟨hP, hD⟩ := va_join (wr := [(mk, .inl (cA 0, 4, .inl kf)), (mp, .inl (cA 0, 4, .inl pf)), (mz, .inl (cA 0, 4, .inl zf)), (me, .inl (cA 0, 4, .inl ef)), (mx, .inl (cA 0, 256, .inl xsf)), (mu, .inl (cA 1, 256, .inr (.inl ouf))), (mn, .inl (cA 0, 4, .inl tkf))]) (w1 := [(mo, .inr (6, [.ref mw, .int (nI cnt), .ref mk, .ref mp, .ref mz, .ref me, .ref mtb, .ref my, .ref mx, .ref mu, .ref mn, .ref mg, .int hf, .int fro, .ref mf, .int (nI fsz), .ref mi, .int (nI ((rs_say seed.toInt64 4 Bc.1 Bc.2).2)), .int z, .ref mh, .ref mv, .int (nI rk), .long lf, .long lo, .ref ms])), (mi, .inl (cA 0, 700, .inl ((rs_say seed.toInt64 4 Bc.1 Bc.2).1)))]) hP hD [7, 8] [0, 1, 2, 3, 4, 5, 6] rfl rfl (by decide) (by decide) hk1 hFc hP1 hD1
    generalize H1 = H at hP hS ⊢
    have hP : va_P (dC, dI) vwCl [(mk, .inl (cA 0, 4, .inl kf)), (mp, .inl (cA 0, 4, .inl pf)), (mz, .inl (cA 0, 4, .inl zf)), (me, .inl (cA 0, 4, .inl ef)), (mx, .inl (cA 0, 256, .inl xsf)), (mu, .inl (cA 1, 256, .inr (.inl ouf))), (mn, .inl (cA 0, 4, .inl tkf)), (mo, .inr (6, [.ref mw, .int (nI cnt), .ref mk, .ref mp, .ref mz, .ref me, .ref mtb, .ref my, .ref mx, .ref mu, .ref mn, .ref mg, .int hf, .int fro, .ref mf, .int (nI fsz), .ref mi, .int (nI ((rs_say seed.toInt64 4 Bc.1 Bc.2).2)), .int z, .ref mh, .ref mv, .int (nI rk), .long lf, .long lo, .ref ms])), (mi, .inl (cA 0, 700, .inl ((rs_say seed.toInt64 4 Bc.1 Bc.2).1)))] H := hP
    have hD : va_D A [(mk, .inl (cA 0, 4, .inl kf)), (mp, .inl (cA 0, 4, .inl pf)), (mz, .inl (cA 0, 4, .inl zf)), (me, .inl (cA 0, 4, .inl ef)), (mx, .inl (cA 0, 256, .inl xsf)), (mu, .inl (cA 1, 256, .inr (.inl ouf))), (mn, .inl (cA 0, 4, .inl tkf)), (mo, .inr (6, [.ref mw, .int (nI cnt), .ref mk, .ref mp, .ref mz, .ref me, .ref mtb, .ref my, .ref mx, .ref mu, .ref mn, .ref mg, .int hf, .int fro, .ref mf, .int (nI fsz), .ref mi, .int (nI ((rs_say seed.toInt64 4 Bc.1 Bc.2).2)), .int z, .ref mh, .ref mv, .int (nI rk), .long lf, .long lo, .ref ms])), (mi, .inl (cA 0, 700, .inl ((rs_say seed.toInt64 4 Bc.1 Bc.2).1)))] := hD
    obtain ⟨Bd, hBd⟩ : ∃ z, z = rs_say seed.toInt64 4 Bc.1 Bc.2 := ⟨_, rfl⟩
    rw [← hBd] at hP hD
    have hBd2 : Bd.2 = Bc.2 + 4 := by rw [hBd, rs_say_2]
    have hP : va_P (dC, dI) vwCl [(mk, .inl (cA 0, 4, .inl kf)), (mp, .inl (cA 0, 4, .inl pf)), (mz, .inl (cA 0, 4, .inl zf)), (me, .inl (cA 0, 4, .inl ef)), (mx, .inl (cA 0, 256, .inl xsf)), (mu, .inl (cA 1, 256, .inr (.inl ouf))), (mn, .inl (cA 0, 4, .inl tkf)), (mo, .inr (6, [.ref mw, .int (nI cnt), .ref mk, .ref mp, .ref mz, .ref me, .ref mtb, .ref my, .ref mx, .ref mu, .ref mn, .ref mg, .int hf, .int fro, .ref mf, .int (nI fsz), .ref mi, .int (nI Bd.2), .int z, .ref mh, .ref mv, .int (nI rk), .long lf, .long lo, .ref ms])), (mi, .inl (cA 0, 700, .inl Bd.1))] H := hP
    have hD : va_D A [(mk, .inl (cA 0, 4, .inl kf)), (mp, .inl (cA 0, 4, .inl pf)), (mz, .inl (cA 0, 4, .inl zf)), (me, .inl (cA 0, 4, .inl ef)), (mx, .inl (cA 0, 256, .inl xsf)), (mu, .inl (cA 1, 256, .inr (.inl ouf))), (mn, .inl (cA 0, 4, .inl tkf)), (mo, .inr (6, [.ref mw, .int (nI cnt), .ref mk, .ref mp, .ref mz, .ref me, .ref mtb, .ref my, .ref mx, .ref mu, .ref mn, .ref mg, .int hf, .int fro, .ref mf, .int (nI fsz), .ref mi, .int (nI Bd.2), .int z, .ref mh, .ref mv, .int (nI rk), .long lf, .long lo, .ref ms])), (mi, .inl (cA 0, 700, .inl Bd.1))] := hD
    refine lv_aload_n hx hb dX6_image_63 rfl (lv_at hl 0 rfl) ?_
    refine lv_aload_n hx hb dX6_image_64 rfl (lv_at hl 0 rfl) ?_
    refine va_get (D := (dC, dI)) (ci := 6) (v := .ref mn) (C := RX6) (T := TX6) (N := 25) hx hb hts inX6 hown hK hP 7 rfl rfl 10 (by decide) hk_5 (fun _ h9 => h9) rfl dX6_image_65 ?_
    refine lv_iload_n hx hb dX6_image_68 rfl (lv_at hl 1 rfl) ?_
    refine va_iald (D := (dC, dI)) hx hb hK hP 6 0 rfl rfl (vp_in_nI hj4 (by omega)) dX6_image_69 ?_
    refine kt_i (congrArg tkf (nI_clamp (by omega : j < 2 ^ 31))) ?_
    refine kt_i (y := nI tk) htf ?_
    refine lv_i2l (v := (nI tk).toInt64) hx hb dX6_image_70 rfl ?_
    refine lv_iconst (v := 2) hx hb dX6_image_71 (by decide) ?_
    have hPc := hP.sub (ws' := [(mo, .inr (6, [.ref mw, .int (nI cnt), .ref mk, .ref mp, .ref mz, .ref me, .ref mtb, .ref my, .ref mx, .ref mu, .ref mn, .ref mg, .int hf, .int fro, .ref mf, .int (nI fsz), .ref mi, .int (nI Bd.2), .int z, .ref mh, .ref mv, .int (nI rk), .long lf, .long lo, .ref ms])), (mi, .inl (cA 0, 700, .inl Bd.1))]) [7, 8] rfl
    have hDc := hD.sub (ws' := [(mo, .inr (6, [.ref mw, .int (nI cnt), .ref mk, .ref mp, .ref mz, .ref me, .ref mtb, .ref my, .ref mx, .ref mu, .ref mn, .ref mg, .int hf, .int fro, .ref mf, .int (nI fsz), .ref mi, .int (nI Bd.2), .int z, .ref mh, .ref mv, .int (nI rk), .long lf, .long lo, .ref ms])), (mi, .inl (cA 0, 700, .inl Bd.1))]) [7, 8] (by decide) rfl
    have hFc := va_free (wc := [(mo, .inr (6, [.ref mw, .int (nI cnt), .ref mk, .ref mp, .ref mz, .ref me, .ref mtb, .ref my, .ref mx, .ref mu, .ref mn, .ref mg, .int hf, .int fro, .ref mf, .int (nI fsz), .ref mi, .int (nI Bd.2), .int z, .ref mh, .ref mv, .int (nI rk), .long lf, .long lo, .ref ms])), (mi, .inl (cA 0, 700, .inl Bd.1))]) hD hS hA [7, 8] rfl
    refine va_callv (va_runV (As := [.long ((nI tk).toInt64), .int (nI 2)]) (rest := []) ⟨hx, hb, hml, hown, hts⟩ (c_M_say l dC dI cA H.size mo mw mk mp mz me mtb my mx mu mn mg mf mi mh mv ms cnt hf fro fsz Bd.2 z rk lf lo Bd.1 ((nI tk).toInt64) 2 (by omega)) (cwV 2 hts (kg_V tb_392 tb_393 tb_394 tb_318 tb_391) rfl rfl rfl (by decide +kernel) ⟨Nat.le_of_ble_eq_true rfl, Nat.le_of_ble_eq_true rfl⟩) (kpv_rw hK hN hPc hDc (ci := 6) (q0 := 0) rfl rfl rfl) rfl rfl hl.1 rfl (lv_room (Nat.le_of_ble_eq_true rfl)) dX6_image_72 ⟨Nat.le_of_ble_eq_true rfl, Nat.le_of_ble_eq_true rfl⟩) hS (fun q _ h => hFc q h) hFc (fun u9 t9 H1 locs ht9 hvm9 hr_7 hB hz1 hk1 hS => ?_)
    obtain ⟨hP1, hD1⟩ := hB
    rw [ht9] at hP1
    obtain ⟨hP, hD⟩ := va_join (wr := [(mk, .inl (cA 0, 4, .inl kf)), (mp, .inl (cA 0, 4, .inl pf)), (mz, .inl (cA 0, 4, .inl zf)), (me, .inl (cA 0, 4, .inl ef)), (mx, .inl (cA 0, 256, .inl xsf)), (mu, .inl (cA 1, 256, .inr (.inl ouf))), (mn, .inl (cA 0, 4, .inl tkf))]) (w1 := [(mo, .inr (6, [.ref mw, .int (nI cnt), .ref mk, .ref mp, .ref mz, .ref me, .ref mtb, .ref my, .ref mx, .ref mu, .ref mn, .ref mg, .int hf, .int fro, .ref mf, .int (nI fsz), .ref mi, .int (nI ((rs_say ((nI tk).toInt64) 2 Bd.1 Bd.2).2)), .int z, .ref mh, .ref mv, .int (nI rk), .long lf, .long lo, .ref ms])), (mi, .inl (cA 0, 700, .inl ((rs_say ((nI tk).toInt64) 2 Bd.1 Bd.2).1)))]) hP hD [7, 8] [0, 1, 2, 3, 4, 5, 6] rfl rfl (by decide) (by decide) hk1 hFc hP1 hD1
    generalize H1 = H at hP hS ⊢
    have hP : va_P (dC, dI) vwCl [(mk, .inl (cA 0, 4, .inl kf)), (mp, .inl (cA 0, 4, .inl pf)), (mz, .inl (cA 0, 4, .inl zf)), (me, .inl (cA 0, 4, .inl ef)), (mx, .inl (cA 0, 256, .inl xsf)), (mu, .inl (cA 1, 256, .inr (.inl ouf))), (mn, .inl (cA 0, 4, .inl tkf)), (mo, .inr (6, [.ref mw, .int (nI cnt), .ref mk, .ref mp, .ref mz, .ref me, .ref mtb, .ref my, .ref mx, .ref mu, .ref mn, .ref mg, .int hf, .int fro, .ref mf, .int (nI fsz), .ref mi, .int (nI ((rs_say ((nI tk).toInt64) 2 Bd.1 Bd.2).2)), .int z, .ref mh, .ref mv, .int (nI rk), .long lf, .long lo, .ref ms])), (mi, .inl (cA 0, 700, .inl ((rs_say ((nI tk).toInt64) 2 Bd.1 Bd.2).1)))] H := hP
    have hD : va_D A [(mk, .inl (cA 0, 4, .inl kf)), (mp, .inl (cA 0, 4, .inl pf)), (mz, .inl (cA 0, 4, .inl zf)), (me, .inl (cA 0, 4, .inl ef)), (mx, .inl (cA 0, 256, .inl xsf)), (mu, .inl (cA 1, 256, .inr (.inl ouf))), (mn, .inl (cA 0, 4, .inl tkf)), (mo, .inr (6, [.ref mw, .int (nI cnt), .ref mk, .ref mp, .ref mz, .ref me, .ref mtb, .ref my, .ref mx, .ref mu, .ref mn, .ref mg, .int hf, .int fro, .ref mf, .int (nI fsz), .ref mi, .int (nI ((rs_say ((nI tk).toInt64) 2 Bd.1 Bd.2).2)), .int z, .ref mh, .ref mv, .int (nI rk), .long lf, .long lo, .ref ms])), (mi, .inl (cA 0, 700, .inl ((rs_say ((nI tk).toInt64) 2 Bd.1 Bd.2).1)))] := hD
    obtain ⟨Be, hBe⟩ : ∃ z, z = rs_say ((nI tk).toInt64) 2 Bd.1 Bd.2 := ⟨_, rfl⟩
    rw [← hBe] at hP hD
    have hBe2 : Be.2 = Bd.2 + 2 := by rw [hBe, rs_say_2]
    have hP : va_P (dC, dI) vwCl [(mk, .inl (cA 0, 4, .inl kf)), (mp, .inl (cA 0, 4, .inl pf)), (mz, .inl (cA 0, 4, .inl zf)), (me, .inl (cA 0, 4, .inl ef)), (mx, .inl (cA 0, 256, .inl xsf)), (mu, .inl (cA 1, 256, .inr (.inl ouf))), (mn, .inl (cA 0, 4, .inl tkf)), (mo, .inr (6, [.ref mw, .int (nI cnt), .ref mk, .ref mp, .ref mz, .ref me, .ref mtb, .ref my, .ref mx, .ref mu, .ref mn, .ref mg, .int hf, .int fro, .ref mf, .int (nI fsz), .ref mi, .int (nI Be.2), .int z, .ref mh, .ref mv, .int (nI rk), .long lf, .long lo, .ref ms])), (mi, .inl (cA 0, 700, .inl Be.1))] H := hP
    have hD : va_D A [(mk, .inl (cA 0, 4, .inl kf)), (mp, .inl (cA 0, 4, .inl pf)), (mz, .inl (cA 0, 4, .inl zf)), (me, .inl (cA 0, 4, .inl ef)), (mx, .inl (cA 0, 256, .inl xsf)), (mu, .inl (cA 1, 256, .inr (.inl ouf))), (mn, .inl (cA 0, 4, .inl tkf)), (mo, .inr (6, [.ref mw, .int (nI cnt), .ref mk, .ref mp, .ref mz, .ref me, .ref mtb, .ref my, .ref mx, .ref mu, .ref mn, .ref mg, .int hf, .int fro, .ref mf, .int (nI fsz), .ref mi, .int (nI Be.2), .int z, .ref mh, .ref mv, .int (nI rk), .long lf, .long lo, .ref ms])), (mi, .inl (cA 0, 700, .inl Be.1))] := hD
    refine lv_iconst (v := 0) hx hb dX6_image_75 (by decide) ?_
    refine lv_istore_n (lv' := [(2, .int 0), (0, .ref mo), (1, .int (nI j))]) hx hb dX6_image_76 rfl hl (by decide) rfl (fun ls hl => ?_)
    have hi_hk : 0 ≤ tk := (by omega)
    have hi_hB1 : Be = rs_iml S j xsf ouf (rs_im5 K P S seed tk imf) 0 := (by subst hBe hBd hBc hBb hBa; rfl)
    have hi_hB2 : Be.2 = 9 + 0 * (2 + S) := (by omega)
    have hl9 : lv_has ls 3 [(2, .int (nI 0)), (0, .ref mo), (1, .int (nI j))] := lv_sub hl [0, 1, 2] rfl
    refine k_loop2 (I := fun (k : Nat) (B1 : (Nat → Int32) × Nat) (H : Heap) (locs : List Loc) (ls : Array Slot) => (k ≤ tk) ∧ (B1 = rs_iml S j xsf ouf (rs_im5 K P S seed tk imf) k) ∧ (B1.2 = 9 + k * (2 + S)) ∧ lv_has ls 3 [(2, .int (nI k)), (0, .ref mo), (1, .int (nI j))] ∧ va_P (dC, dI) vwCl [(mk, .inl (cA 0, 4, .inl kf)), (mp, .inl (cA 0, 4, .inl pf)), (mz, .inl (cA 0, 4, .inl zf)), (me, .inl (cA 0, 4, .inl ef)), (mx, .inl (cA 0, 256, .inl xsf)), (mu, .inl (cA 1, 256, .inr (.inl ouf))), (mn, .inl (cA 0, 4, .inl tkf)), (mo, .inr (6, [.ref mw, .int (nI cnt), .ref mk, .ref mp, .ref mz, .ref me, .ref mtb, .ref my, .ref mx, .ref mu, .ref mn, .ref mg, .int hf, .int fro, .ref mf, .int (nI fsz), .ref mi, .int (nI B1.2), .int z, .ref mh, .ref mv, .int (nI rk), .long lf, .long lo, .ref ms])), (mi, .inl (cA 0, 700, .inl B1.1))] H ∧ va_D A [(mk, .inl (cA 0, 4, .inl kf)), (mp, .inl (cA 0, 4, .inl pf)), (mz, .inl (cA 0, 4, .inl zf)), (me, .inl (cA 0, 4, .inl ef)), (mx, .inl (cA 0, 256, .inl xsf)), (mu, .inl (cA 1, 256, .inr (.inl ouf))), (mn, .inl (cA 0, 4, .inl tkf)), (mo, .inr (6, [.ref mw, .int (nI cnt), .ref mk, .ref mp, .ref mz, .ref me, .ref mtb, .ref my, .ref mx, .ref mu, .ref mn, .ref mg, .int hf, .int fro, .ref mf, .int (nI fsz), .ref mi, .int (nI B1.2), .int z, .ref mh, .ref mv, .int (nI rk), .long lf, .long lo, .ref ms])), (mi, .inl (cA 0, 700, .inl B1.1))] ∧ va_S A s.heap H locs) (μ := fun k B1 => tk - k) ?_ 0 Be ⟨hi_hk, hi_hB1, hi_hB2, hl9, hP, hD, hS⟩
    intro k B1 H locs ls hI9 ih_L0
    obtain ⟨hk, hB1, hB2, hl, hP, hD, hS⟩ := hI9
    refine lv_iload_n hx hb dX6_image_77 rfl (lv_at hl 0 rfl) ?_
    refine lv_aload_n hx hb dX6_image_78 rfl (lv_at hl 1 rfl) ?_
    refine va_get (D := (dC, dI)) (ci := 6) (v := .ref mn) (C := RX6) (T := TX6) (N := 25) hx hb hts inX6 hown hK hP 7 rfl rfl 10 (by decide) hk_5 (fun _ h9 => h9) rfl dX6_image_79 ?_
    refine lv_iload_n hx hb dX6_image_82 rfl (lv_at hl 2 rfl) ?_
    refine va_iald (D := (dC, dI)) hx hb hK hP 6 0 rfl rfl (vp_in_nI hj4 (by omega)) dX6_image_83 ?_
    refine kt_i (congrArg tkf (nI_clamp (by omega : j < 2 ^ 31))) ?_
    refine kt_i (y := nI tk) htf ?_
    refine lv_icmp_ge (tgt := 131) hx hb dX6_image_84 (by decide) (fun c_8 => ?_) (fun c_8 => ?_)
    · have c_8 : (nI tk) ≤ (nI k) := c_8
      have hk9 : tk ≤ k := (ku_le (a := tk) (b := k) (by omega) (by omega)).mp c_8
      have ek : k = tk := by omega
      refine lv_aload_n hx hb dX6_image_131 rfl (lv_at hl 1 rfl) ?_
      refine lv_aload_n hx hb dX6_image_132 rfl (lv_at hl 1 rfl) ?_
      refine lv_aload_n hx hb dX6_image_133 rfl (lv_at hl 1 rfl) ?_
      refine va_get (D := (dC, dI)) (ci := 6) (v := .ref mi) (C := RX6) (T := TX6) (N := 25) hx hb hts inX6 hown hK hP 7 rfl rfl 16 (by decide) hk_6 (fun _ h9 => h9) rfl dX6_image_134 ?_
      refine lv_aload_n hx hb dX6_image_137 rfl (lv_at hl 1 rfl) ?_
      refine va_get (D := (dC, dI)) (ci := 6) (v := .int (nI B1.2)) (C := RX6) (T := TX6) (N := 25) hx hb hts inX6 hown hK hP 7 rfl rfl 17 (by decide) hk_0 (fun _ h9 => h9) rfl dX6_image_138 ?_
      have hPc := hP.sub (ws' := [(mo, .inr (6, [.ref mw, .int (nI cnt), .ref mk, .ref mp, .ref mz, .ref me, .ref mtb, .ref my, .ref mx, .ref mu, .ref mn, .ref mg, .int hf, .int fro, .ref mf, .int (nI fsz), .ref mi, .int (nI B1.2), .int z, .ref mh, .ref mv, .int (nI rk), .long lf, .long lo, .ref ms])), (mi, .inl (cA 0, 700, .inl B1.1))]) [7, 8] rfl
      refine kq_csi (va_runV (As := [.ref mi, .int (nI B1.2)]) (rest := [.ref mo]) ⟨hx, hb, hml, hown, hts⟩ (c_M_sum l dC dI cA mo mw mk mp mz me mtb my mx mu mn mg mf mi mh mv ms cnt hf fro fsz B1.2 z rk lf lo mi 700 B1.1 B1.2 (by have := Nat.mul_le_mul_left k (by omega : 2 + S ≤ 10); omega) (by decide)) (cwV 2 hts (kg_V tb_362 tb_363 tb_364 tb_318 tb_361) rfl rfl rfl (by decide +kernel) ⟨Nat.le_of_ble_eq_true rfl, Nat.le_of_ble_eq_true rfl⟩) (kpv_ro hK hN hPc (ci := 6) (q0 := 0) rfl rfl rfl) rfl rfl hl.1 rfl (lv_room (Nat.le_of_ble_eq_true rfl)) dX6_image_141 ⟨Nat.le_of_ble_eq_true rfl, Nat.le_of_ble_eq_true rfl⟩) (fun r_9 hr_9 => ?_)
      refine kt_i (y := rs_crc B1.1 B1.2) hr_9 ?_
      refine lv_i2l (v := (rs_crc B1.1 B1.2).toInt64) hx hb dX6_image_144 rfl ?_
      refine lv_iconst (v := 2) hx hb dX6_image_145 (by decide) ?_
      have hPc := hP.sub (ws' := [(mo, .inr (6, [.ref mw, .int (nI cnt), .ref mk, .ref mp, .ref mz, .ref me, .ref mtb, .ref my, .ref mx, .ref mu, .ref mn, .ref mg, .int hf, .int fro, .ref mf, .int (nI fsz), .ref mi, .int (nI B1.2), .int z, .ref mh, .ref mv, .int (nI rk), .long lf, .long lo, .ref ms])), (mi, .inl (cA 0, 700, .inl B1.1))]) [7, 8] rfl
      have hDc := hD.sub (ws' := [(mo, .inr (6, [.ref mw, .int (nI cnt), .ref mk, .ref mp, .ref mz, .ref me, .ref mtb, .ref my, .ref mx, .ref mu, .ref mn, .ref mg, .int hf, .int fro, .ref mf, .int (nI fsz), .ref mi, .int (nI B1.2), .int z, .ref mh, .ref mv, .int (nI rk), .long lf, .long lo, .ref ms])), (mi, .inl (cA 0, 700, .inl B1.1))]) [7, 8] (by decide) rfl
      have hFc := va_free (wc := [(mo, .inr (6, [.ref mw, .int (nI cnt), .ref mk, .ref mp, .ref mz, .ref me, .ref mtb, .ref my, .ref mx, .ref mu, .ref mn, .ref mg, .int hf, .int fro, .ref mf, .int (nI fsz), .ref mi, .int (nI B1.2), .int z, .ref mh, .ref mv, .int (nI rk), .long lf, .long lo, .ref ms])), (mi, .inl (cA 0, 700, .inl B1.1))]) hD hS hA [7, 8] rfl
      refine va_callv (va_runV (As := [.long ((rs_crc B1.1 B1.2).toInt64), .int (nI 2)]) (rest := []) ⟨hx, hb, hml, hown, hts⟩ (c_M_say l dC dI cA H.size mo mw mk mp mz me mtb my mx mu mn mg mf mi mh mv ms cnt hf fro fsz B1.2 z rk lf lo B1.1 ((rs_crc B1.1 B1.2).toInt64) 2 (by have := Nat.mul_le_mul_left k (by omega : 2 + S ≤ 10); omega)) (cwV 2 hts (kg_V tb_392 tb_393 tb_394 tb_318 tb_391) rfl rfl rfl (by decide +kernel) ⟨Nat.le_of_ble_eq_true rfl, Nat.le_of_ble_eq_true rfl⟩) (kpv_rw hK hN hPc hDc (ci := 6) (q0 := 0) rfl rfl rfl) rfl rfl hl.1 rfl (lv_room (Nat.le_of_ble_eq_true rfl)) dX6_image_146 ⟨Nat.le_of_ble_eq_true rfl, Nat.le_of_ble_eq_true rfl⟩) hS (fun q _ h => hFc q h) hFc (fun u9 t9 H1 locs ht9 hvm9 hr_10 hB hz1 hk1 hS => ?_)
      obtain ⟨hP1, hD1⟩ := hB
      rw [ht9] at hP1
      obtain ⟨hP, hD⟩ := va_join (wr := [(mk, .inl (cA 0, 4, .inl kf)), (mp, .inl (cA 0, 4, .inl pf)), (mz, .inl (cA 0, 4, .inl zf)), (me, .inl (cA 0, 4, .inl ef)), (mx, .inl (cA 0, 256, .inl xsf)), (mu, .inl (cA 1, 256, .inr (.inl ouf))), (mn, .inl (cA 0, 4, .inl tkf))]) (w1 := [(mo, .inr (6, [.ref mw, .int (nI cnt), .ref mk, .ref mp, .ref mz, .ref me, .ref mtb, .ref my, .ref mx, .ref mu, .ref mn, .ref mg, .int hf, .int fro, .ref mf, .int (nI fsz), .ref mi, .int (nI ((rs_say ((rs_crc B1.1 B1.2).toInt64) 2 B1.1 B1.2).2)), .int z, .ref mh, .ref mv, .int (nI rk), .long lf, .long lo, .ref ms])), (mi, .inl (cA 0, 700, .inl ((rs_say ((rs_crc B1.1 B1.2).toInt64) 2 B1.1 B1.2).1)))]) hP hD [7, 8] [0, 1, 2, 3, 4, 5, 6] rfl rfl (by decide) (by decide) hk1 hFc hP1 hD1
      generalize H1 = H at hP hS ⊢
      have hP : va_P (dC, dI) vwCl [(mk, .inl (cA 0, 4, .inl kf)), (mp, .inl (cA 0, 4, .inl pf)), (mz, .inl (cA 0, 4, .inl zf)), (me, .inl (cA 0, 4, .inl ef)), (mx, .inl (cA 0, 256, .inl xsf)), (mu, .inl (cA 1, 256, .inr (.inl ouf))), (mn, .inl (cA 0, 4, .inl tkf)), (mo, .inr (6, [.ref mw, .int (nI cnt), .ref mk, .ref mp, .ref mz, .ref me, .ref mtb, .ref my, .ref mx, .ref mu, .ref mn, .ref mg, .int hf, .int fro, .ref mf, .int (nI fsz), .ref mi, .int (nI ((rs_say ((rs_crc B1.1 B1.2).toInt64) 2 B1.1 B1.2).2)), .int z, .ref mh, .ref mv, .int (nI rk), .long lf, .long lo, .ref ms])), (mi, .inl (cA 0, 700, .inl ((rs_say ((rs_crc B1.1 B1.2).toInt64) 2 B1.1 B1.2).1)))] H := hP
      have hD : va_D A [(mk, .inl (cA 0, 4, .inl kf)), (mp, .inl (cA 0, 4, .inl pf)), (mz, .inl (cA 0, 4, .inl zf)), (me, .inl (cA 0, 4, .inl ef)), (mx, .inl (cA 0, 256, .inl xsf)), (mu, .inl (cA 1, 256, .inr (.inl ouf))), (mn, .inl (cA 0, 4, .inl tkf)), (mo, .inr (6, [.ref mw, .int (nI cnt), .ref mk, .ref mp, .ref mz, .ref me, .ref mtb, .ref my, .ref mx, .ref mu, .ref mn, .ref mg, .int hf, .int fro, .ref mf, .int (nI fsz), .ref mi, .int (nI ((rs_say ((rs_crc B1.1 B1.2).toInt64) 2 B1.1 B1.2).2)), .int z, .ref mh, .ref mv, .int (nI rk), .long lf, .long lo, .ref ms])), (mi, .inl (cA 0, 700, .inl ((rs_say ((rs_crc B1.1 B1.2).toInt64) 2 B1.1 B1.2).1)))] := hD
      obtain ⟨Bh, hBh⟩ : ∃ z, z = rs_say ((rs_crc B1.1 B1.2).toInt64) 2 B1.1 B1.2 := ⟨_, rfl⟩
      rw [← hBh] at hP hD
      have hBh2 : Bh.2 = B1.2 + 2 := by rw [hBh, rs_say_2]
      have hP : va_P (dC, dI) vwCl [(mk, .inl (cA 0, 4, .inl kf)), (mp, .inl (cA 0, 4, .inl pf)), (mz, .inl (cA 0, 4, .inl zf)), (me, .inl (cA 0, 4, .inl ef)), (mx, .inl (cA 0, 256, .inl xsf)), (mu, .inl (cA 1, 256, .inr (.inl ouf))), (mn, .inl (cA 0, 4, .inl tkf)), (mo, .inr (6, [.ref mw, .int (nI cnt), .ref mk, .ref mp, .ref mz, .ref me, .ref mtb, .ref my, .ref mx, .ref mu, .ref mn, .ref mg, .int hf, .int fro, .ref mf, .int (nI fsz), .ref mi, .int (nI Bh.2), .int z, .ref mh, .ref mv, .int (nI rk), .long lf, .long lo, .ref ms])), (mi, .inl (cA 0, 700, .inl Bh.1))] H := hP
      have hD : va_D A [(mk, .inl (cA 0, 4, .inl kf)), (mp, .inl (cA 0, 4, .inl pf)), (mz, .inl (cA 0, 4, .inl zf)), (me, .inl (cA 0, 4, .inl ef)), (mx, .inl (cA 0, 256, .inl xsf)), (mu, .inl (cA 1, 256, .inr (.inl ouf))), (mn, .inl (cA 0, 4, .inl tkf)), (mo, .inr (6, [.ref mw, .int (nI cnt), .ref mk, .ref mp, .ref mz, .ref me, .ref mtb, .ref my, .ref mx, .ref mu, .ref mn, .ref mg, .int hf, .int fro, .ref mf, .int (nI fsz), .ref mi, .int (nI Bh.2), .int z, .ref mh, .ref mv, .int (nI rk), .long lf, .long lo, .ref ms])), (mi, .inl (cA 0, 700, .inl Bh.1))] := hD
      refine lv_aload_n hx hb dX6_image_149 rfl (lv_at hl 1 rfl) ?_
      refine va_get (D := (dC, dI)) (ci := 6) (v := .int (nI Bh.2)) (C := RX6) (T := TX6) (N := 25) hx hb hts inX6 hown hK hP 7 rfl rfl 17 (by decide) hk_0 (fun _ h9 => h9) rfl dX6_image_150 ?_
      have hP9 := hP.sub (ws' := [(mo, .inr (6, [.ref mw, .int (nI cnt), .ref mk, .ref mp, .ref mz, .ref me, .ref mtb, .ref my, .ref mx, .ref mu, .ref mn, .ref mg, .int hf, .int fro, .ref mf, .int (nI fsz), .ref mi, .int (nI Bh.2), .int z, .ref mh, .ref mv, .int (nI rk), .long lf, .long lo, .ref ms])), (mk, .inl (cA 0, 4, .inl kf)), (mp, .inl (cA 0, 4, .inl pf)), (mz, .inl (cA 0, 4, .inl zf)), (me, .inl (cA 0, 4, .inl ef)), (mx, .inl (cA 0, 256, .inl xsf)), (mu, .inl (cA 1, 256, .inr (.inl ouf))), (mn, .inl (cA 0, 4, .inl tkf)), (mi, .inl (cA 0, 700, .inl Bh.1))]) [7, 0, 1, 2, 3, 4, 5, 6, 8] rfl
      have hD9 := hD.sub (ws' := [(mo, .inr (6, [.ref mw, .int (nI cnt), .ref mk, .ref mp, .ref mz, .ref me, .ref mtb, .ref my, .ref mx, .ref mu, .ref mn, .ref mg, .int hf, .int fro, .ref mf, .int (nI fsz), .ref mi, .int (nI Bh.2), .int z, .ref mh, .ref mv, .int (nI rk), .long lf, .long lo, .ref ms])), (mk, .inl (cA 0, 4, .inl kf)), (mp, .inl (cA 0, 4, .inl pf)), (mz, .inl (cA 0, 4, .inl zf)), (me, .inl (cA 0, 4, .inl ef)), (mx, .inl (cA 0, 256, .inl xsf)), (mu, .inl (cA 1, 256, .inr (.inl ouf))), (mn, .inl (cA 0, 4, .inl tkf)), (mi, .inl (cA 0, 700, .inl Bh.1))]) [7, 0, 1, 2, 3, 4, 5, 6, 8] (by decide) rfl
      have e9_0 : nI ((rs_im K P S seed tk j xsf ouf imf).2) = nI Bh.2 := (by rw [hBh, hB1, ek] <;> rfl)
      have e9_1 : (rs_im K P S seed tk j xsf ouf imf).1 = Bh.1 := (by rw [hBh, hB1, ek] <;> rfl)
      have e9 : ([(mo, .inr (6, [.ref mw, .int (nI cnt), .ref mk, .ref mp, .ref mz, .ref me, .ref mtb, .ref my, .ref mx, .ref mu, .ref mn, .ref mg, .int hf, .int fro, .ref mf, .int (nI fsz), .ref mi, .int (nI ((rs_im K P S seed tk j xsf ouf imf).2)), .int z, .ref mh, .ref mv, .int (nI rk), .long lf, .long lo, .ref ms])), (mk, .inl (cA 0, 4, .inl kf)), (mp, .inl (cA 0, 4, .inl pf)), (mz, .inl (cA 0, 4, .inl zf)), (me, .inl (cA 0, 4, .inl ef)), (mx, .inl (cA 0, 256, .inl xsf)), (mu, .inl (cA 1, 256, .inr (.inl ouf))), (mn, .inl (cA 0, 4, .inl tkf)), (mi, .inl (cA 0, 700, .inl ((rs_im K P S seed tk j xsf ouf imf).1)))] : va_W) = [(mo, .inr (6, [.ref mw, .int (nI cnt), .ref mk, .ref mp, .ref mz, .ref me, .ref mtb, .ref my, .ref mx, .ref mu, .ref mn, .ref mg, .int hf, .int fro, .ref mf, .int (nI fsz), .ref mi, .int (nI Bh.2), .int z, .ref mh, .ref mv, .int (nI rk), .long lf, .long lo, .ref ms])), (mk, .inl (cA 0, 4, .inl kf)), (mp, .inl (cA 0, 4, .inl pf)), (mz, .inl (cA 0, 4, .inl zf)), (me, .inl (cA 0, 4, .inl ef)), (mx, .inl (cA 0, 256, .inl xsf)), (mu, .inl (cA 1, 256, .inr (.inl ouf))), (mn, .inl (cA 0, 4, .inl tkf)), (mi, .inl (cA 0, 700, .inl Bh.1))] := by rw [e9_0, e9_1]
      exact W.iret (v := nI Bh.2) hx hb hr (fun t9 ht9 hW9 => ⟨⟨nI Bh.2, (), rfl, (by rw [hBh, hB1, ek] <;> rfl), by rw [ht9, e9]; exact hP9, by rw [e9]; exact hD9⟩, hS.F ht9⟩) hS.2.2 dX6_image_153
    · have c_8 : ¬ ((nI tk) ≤ (nI k)) := c_8
      have hk9 : k < tk := (ku_nle (a := tk) (b := k) (by omega) (by omega)).mp c_8
      refine lv_aload_n hx hb dX6_image_87 rfl (lv_at hl 1 rfl) ?_
      refine lv_aload_n hx hb dX6_image_88 rfl (lv_at hl 1 rfl) ?_
      refine va_get (D := (dC, dI)) (ci := 6) (v := .ref mx) (C := RX6) (T := TX6) (N := 25) hx hb hts inX6 hown hK hP 7 rfl rfl 8 (by decide) hk_7 (fun _ h9 => h9) rfl dX6_image_89 ?_
      refine lv_bipush (v := 64) hx hb dX6_image_92 (by decide) ?_
      refine lv_iload_n hx hb dX6_image_94 rfl (lv_at hl 2 rfl) ?_
      refine lv_imul hx hb dX6_image_95 ?_
      refine kt_i (y := nI (64 * j)) (pk_mul 64 j) ?_
      refine lv_iload_n hx hb dX6_image_96 rfl (lv_at hl 0 rfl) ?_
      refine lv_iadd hx hb dX6_image_97 ?_
      refine kt_i (y := nI ((64 * j) + k)) (nI_add (64 * j) k) ?_
      refine va_iald (D := (dC, dI)) hx hb hK hP 4 0 rfl rfl (vp_in_nI (by omega) (by omega)) dX6_image_98 ?_
      refine kt_i (congrArg xsf (nI_clamp (by omega : ((64 * j) + k) < 2 ^ 31))) ?_
      refine lv_i2l (v := (xsf ((64 * j) + k)).toInt64) hx hb dX6_image_99 rfl ?_
      refine lv_iconst (v := 2) hx hb dX6_image_100 (by decide) ?_
      have hPc := hP.sub (ws' := [(mo, .inr (6, [.ref mw, .int (nI cnt), .ref mk, .ref mp, .ref mz, .ref me, .ref mtb, .ref my, .ref mx, .ref mu, .ref mn, .ref mg, .int hf, .int fro, .ref mf, .int (nI fsz), .ref mi, .int (nI B1.2), .int z, .ref mh, .ref mv, .int (nI rk), .long lf, .long lo, .ref ms])), (mi, .inl (cA 0, 700, .inl B1.1))]) [7, 8] rfl
      have hDc := hD.sub (ws' := [(mo, .inr (6, [.ref mw, .int (nI cnt), .ref mk, .ref mp, .ref mz, .ref me, .ref mtb, .ref my, .ref mx, .ref mu, .ref mn, .ref mg, .int hf, .int fro, .ref mf, .int (nI fsz), .ref mi, .int (nI B1.2), .int z, .ref mh, .ref mv, .int (nI rk), .long lf, .long lo, .ref ms])), (mi, .inl (cA 0, 700, .inl B1.1))]) [7, 8] (by decide) rfl
      have hFc := va_free (wc := [(mo, .inr (6, [.ref mw, .int (nI cnt), .ref mk, .ref mp, .ref mz, .ref me, .ref mtb, .ref my, .ref mx, .ref mu, .ref mn, .ref mg, .int hf, .int fro, .ref mf, .int (nI fsz), .ref mi, .int (nI B1.2), .int z, .ref mh, .ref mv, .int (nI rk), .long lf, .long lo, .ref ms])), (mi, .inl (cA 0, 700, .inl B1.1))]) hD hS hA [7, 8] rfl
      refine va_callv (va_runV (As := [.long ((xsf ((64 * j) + k)).toInt64), .int (nI 2)]) (rest := []) ⟨hx, hb, hml, hown, hts⟩ (c_M_say l dC dI cA H.size mo mw mk mp mz me mtb my mx mu mn mg mf mi mh mv ms cnt hf fro fsz B1.2 z rk lf lo B1.1 ((xsf ((64 * j) + k)).toInt64) 2 (by have := Nat.mul_le_mul_left k (by omega : 2 + S ≤ 10); omega)) (cwV 2 hts (kg_V tb_392 tb_393 tb_394 tb_318 tb_391) rfl rfl rfl (by decide +kernel) ⟨Nat.le_of_ble_eq_true rfl, Nat.le_of_ble_eq_true rfl⟩) (kpv_rw hK hN hPc hDc (ci := 6) (q0 := 0) rfl rfl rfl) rfl rfl hl.1 rfl (lv_room (Nat.le_of_ble_eq_true rfl)) dX6_image_101 ⟨Nat.le_of_ble_eq_true rfl, Nat.le_of_ble_eq_true rfl⟩) hS (fun q _ h => hFc q h) hFc (fun u9 t9 H1 locs ht9 hvm9 hr_11 hB hz1 hk1 hS => ?_)
      obtain ⟨hP1, hD1⟩ := hB
      rw [ht9] at hP1
      obtain ⟨hP, hD⟩ := va_join (wr := [(mk, .inl (cA 0, 4, .inl kf)), (mp, .inl (cA 0, 4, .inl pf)), (mz, .inl (cA 0, 4, .inl zf)), (me, .inl (cA 0, 4, .inl ef)), (mx, .inl (cA 0, 256, .inl xsf)), (mu, .inl (cA 1, 256, .inr (.inl ouf))), (mn, .inl (cA 0, 4, .inl tkf))]) (w1 := [(mo, .inr (6, [.ref mw, .int (nI cnt), .ref mk, .ref mp, .ref mz, .ref me, .ref mtb, .ref my, .ref mx, .ref mu, .ref mn, .ref mg, .int hf, .int fro, .ref mf, .int (nI fsz), .ref mi, .int (nI ((rs_say ((xsf ((64 * j) + k)).toInt64) 2 B1.1 B1.2).2)), .int z, .ref mh, .ref mv, .int (nI rk), .long lf, .long lo, .ref ms])), (mi, .inl (cA 0, 700, .inl ((rs_say ((xsf ((64 * j) + k)).toInt64) 2 B1.1 B1.2).1)))]) hP hD [7, 8] [0, 1, 2, 3, 4, 5, 6] rfl rfl (by decide) (by decide) hk1 hFc hP1 hD1
      generalize H1 = H at hP hS ⊢
      have hP : va_P (dC, dI) vwCl [(mk, .inl (cA 0, 4, .inl kf)), (mp, .inl (cA 0, 4, .inl pf)), (mz, .inl (cA 0, 4, .inl zf)), (me, .inl (cA 0, 4, .inl ef)), (mx, .inl (cA 0, 256, .inl xsf)), (mu, .inl (cA 1, 256, .inr (.inl ouf))), (mn, .inl (cA 0, 4, .inl tkf)), (mo, .inr (6, [.ref mw, .int (nI cnt), .ref mk, .ref mp, .ref mz, .ref me, .ref mtb, .ref my, .ref mx, .ref mu, .ref mn, .ref mg, .int hf, .int fro, .ref mf, .int (nI fsz), .ref mi, .int (nI ((rs_say ((xsf ((64 * j) + k)).toInt64) 2 B1.1 B1.2).2)), .int z, .ref mh, .ref mv, .int (nI rk), .long lf, .long lo, .ref ms])), (mi, .inl (cA 0, 700, .inl ((rs_say ((xsf ((64 * j) + k)).toInt64) 2 B1.1 B1.2).1)))] H := hP
      have hD : va_D A [(mk, .inl (cA 0, 4, .inl kf)), (mp, .inl (cA 0, 4, .inl pf)), (mz, .inl (cA 0, 4, .inl zf)), (me, .inl (cA 0, 4, .inl ef)), (mx, .inl (cA 0, 256, .inl xsf)), (mu, .inl (cA 1, 256, .inr (.inl ouf))), (mn, .inl (cA 0, 4, .inl tkf)), (mo, .inr (6, [.ref mw, .int (nI cnt), .ref mk, .ref mp, .ref mz, .ref me, .ref mtb, .ref my, .ref mx, .ref mu, .ref mn, .ref mg, .int hf, .int fro, .ref mf, .int (nI fsz), .ref mi, .int (nI ((rs_say ((xsf ((64 * j) + k)).toInt64) 2 B1.1 B1.2).2)), .int z, .ref mh, .ref mv, .int (nI rk), .long lf, .long lo, .ref ms])), (mi, .inl (cA 0, 700, .inl ((rs_say ((xsf ((64 * j) + k)).toInt64) 2 B1.1 B1.2).1)))] := hD
      obtain ⟨Bf, hBf⟩ : ∃ z, z = rs_say ((xsf ((64 * j) + k)).toInt64) 2 B1.1 B1.2 := ⟨_, rfl⟩
      rw [← hBf] at hP hD
      have hBf2 : Bf.2 = B1.2 + 2 := by rw [hBf, rs_say_2]
      have hP : va_P (dC, dI) vwCl [(mk, .inl (cA 0, 4, .inl kf)), (mp, .inl (cA 0, 4, .inl pf)), (mz, .inl (cA 0, 4, .inl zf)), (me, .inl (cA 0, 4, .inl ef)), (mx, .inl (cA 0, 256, .inl xsf)), (mu, .inl (cA 1, 256, .inr (.inl ouf))), (mn, .inl (cA 0, 4, .inl tkf)), (mo, .inr (6, [.ref mw, .int (nI cnt), .ref mk, .ref mp, .ref mz, .ref me, .ref mtb, .ref my, .ref mx, .ref mu, .ref mn, .ref mg, .int hf, .int fro, .ref mf, .int (nI fsz), .ref mi, .int (nI Bf.2), .int z, .ref mh, .ref mv, .int (nI rk), .long lf, .long lo, .ref ms])), (mi, .inl (cA 0, 700, .inl Bf.1))] H := hP
      have hD : va_D A [(mk, .inl (cA 0, 4, .inl kf)), (mp, .inl (cA 0, 4, .inl pf)), (mz, .inl (cA 0, 4, .inl zf)), (me, .inl (cA 0, 4, .inl ef)), (mx, .inl (cA 0, 256, .inl xsf)), (mu, .inl (cA 1, 256, .inr (.inl ouf))), (mn, .inl (cA 0, 4, .inl tkf)), (mo, .inr (6, [.ref mw, .int (nI cnt), .ref mk, .ref mp, .ref mz, .ref me, .ref mtb, .ref my, .ref mx, .ref mu, .ref mn, .ref mg, .int hf, .int fro, .ref mf, .int (nI fsz), .ref mi, .int (nI Bf.2), .int z, .ref mh, .ref mv, .int (nI rk), .long lf, .long lo, .ref ms])), (mi, .inl (cA 0, 700, .inl Bf.1))] := hD
      refine lv_aload_n hx hb dX6_image_104 rfl (lv_at hl 1 rfl) ?_
      refine lv_aload_n hx hb dX6_image_105 rfl (lv_at hl 1 rfl) ?_
      refine va_get (D := (dC, dI)) (ci := 6) (v := .ref mu) (C := RX6) (T := TX6) (N := 25) hx hb hts inX6 hown hK hP 7 rfl rfl 9 (by decide) hk_8 (fun _ h9 => h9) rfl dX6_image_106 ?_
      refine lv_bipush (v := 64) hx hb dX6_image_109 (by decide) ?_
      refine lv_iload_n hx hb dX6_image_111 rfl (lv_at hl 2 rfl) ?_
      refine lv_imul hx hb dX6_image_112 ?_
      refine kt_i (y := nI (64 * j)) (pk_mul 64 j) ?_
      refine lv_iload_n hx hb dX6_image_113 rfl (lv_at hl 0 rfl) ?_
      refine lv_iadd hx hb dX6_image_114 ?_
      refine kt_i (y := nI ((64 * j) + k)) (nI_add (64 * j) k) ?_
      refine va_lald (D := (dC, dI)) hx hb hK hP 5 1 rfl rfl (vp_in_nI (by omega) (by omega)) dX6_image_115 ?_
      refine kt_l (congrArg ouf (nI_clamp (by omega : ((64 * j) + k) < 2 ^ 31))) ?_
      refine lv_aload_n hx hb dX6_image_116 rfl (lv_at hl 1 rfl) ?_
      refine va_get (D := (dC, dI)) (ci := 6) (v := .ref mz) (C := RX6) (T := TX6) (N := 25) hx hb hts inX6 hown hK hP 7 rfl rfl 4 (by decide) hk_3 (fun _ h9 => h9) rfl dX6_image_117 ?_
      refine lv_iload_n hx hb dX6_image_120 rfl (lv_at hl 2 rfl) ?_
      refine va_iald (D := (dC, dI)) hx hb hK hP 2 0 rfl rfl (vp_in_nI hj4 (by omega)) dX6_image_121 ?_
      refine kt_i (congrArg zf (nI_clamp (by omega : j < 2 ^ 31))) ?_
      refine kt_i (y := nI S) hzf ?_
      have hPc := hP.sub (ws' := [(mo, .inr (6, [.ref mw, .int (nI cnt), .ref mk, .ref mp, .ref mz, .ref me, .ref mtb, .ref my, .ref mx, .ref mu, .ref mn, .ref mg, .int hf, .int fro, .ref mf, .int (nI fsz), .ref mi, .int (nI Bf.2), .int z, .ref mh, .ref mv, .int (nI rk), .long lf, .long lo, .ref ms])), (mi, .inl (cA 0, 700, .inl Bf.1))]) [7, 8] rfl
      have hDc := hD.sub (ws' := [(mo, .inr (6, [.ref mw, .int (nI cnt), .ref mk, .ref mp, .ref mz, .ref me, .ref mtb, .ref my, .ref mx, .ref mu, .ref mn, .ref mg, .int hf, .int fro, .ref mf, .int (nI fsz), .ref mi, .int (nI Bf.2), .int z, .ref mh, .ref mv, .int (nI rk), .long lf, .long lo, .ref ms])), (mi, .inl (cA 0, 700, .inl Bf.1))]) [7, 8] (by decide) rfl
      have hFc := va_free (wc := [(mo, .inr (6, [.ref mw, .int (nI cnt), .ref mk, .ref mp, .ref mz, .ref me, .ref mtb, .ref my, .ref mx, .ref mu, .ref mn, .ref mg, .int hf, .int fro, .ref mf, .int (nI fsz), .ref mi, .int (nI Bf.2), .int z, .ref mh, .ref mv, .int (nI rk), .long lf, .long lo, .ref ms])), (mi, .inl (cA 0, 700, .inl Bf.1))]) hD hS hA [7, 8] rfl
      refine va_callv (va_runV (As := [.long (ouf ((64 * j) + k)), .int (nI S)]) (rest := []) ⟨hx, hb, hml, hown, hts⟩ (c_M_say l dC dI cA H.size mo mw mk mp mz me mtb my mx mu mn mg mf mi mh mv ms cnt hf fro fsz Bf.2 z rk lf lo Bf.1 (ouf ((64 * j) + k)) S (by have := Nat.mul_le_mul_left k (by omega : 2 + S ≤ 10); omega)) (cwV 2 hts (kg_V tb_392 tb_393 tb_394 tb_318 tb_391) rfl rfl rfl (by decide +kernel) ⟨Nat.le_of_ble_eq_true rfl, Nat.le_of_ble_eq_true rfl⟩) (kpv_rw hK hN hPc hDc (ci := 6) (q0 := 0) rfl rfl rfl) rfl rfl hl.1 rfl (lv_room (Nat.le_of_ble_eq_true rfl)) dX6_image_122 ⟨Nat.le_of_ble_eq_true rfl, Nat.le_of_ble_eq_true rfl⟩) hS (fun q _ h => hFc q h) hFc (fun u9 t9 H1 locs ht9 hvm9 hr_12 hB hz1 hk1 hS => ?_)
      obtain ⟨hP1, hD1⟩ := hB
      rw [ht9] at hP1
      obtain ⟨hP, hD⟩ := va_join (wr := [(mk, .inl (cA 0, 4, .inl kf)), (mp, .inl (cA 0, 4, .inl pf)), (mz, .inl (cA 0, 4, .inl zf)), (me, .inl (cA 0, 4, .inl ef)), (mx, .inl (cA 0, 256, .inl xsf)), (mu, .inl (cA 1, 256, .inr (.inl ouf))), (mn, .inl (cA 0, 4, .inl tkf))]) (w1 := [(mo, .inr (6, [.ref mw, .int (nI cnt), .ref mk, .ref mp, .ref mz, .ref me, .ref mtb, .ref my, .ref mx, .ref mu, .ref mn, .ref mg, .int hf, .int fro, .ref mf, .int (nI fsz), .ref mi, .int (nI ((rs_say (ouf ((64 * j) + k)) S Bf.1 Bf.2).2)), .int z, .ref mh, .ref mv, .int (nI rk), .long lf, .long lo, .ref ms])), (mi, .inl (cA 0, 700, .inl ((rs_say (ouf ((64 * j) + k)) S Bf.1 Bf.2).1)))]) hP hD [7, 8] [0, 1, 2, 3, 4, 5, 6] rfl rfl (by decide) (by decide) hk1 hFc hP1 hD1
      generalize H1 = H at hP hS ⊢
      have hP : va_P (dC, dI) vwCl [(mk, .inl (cA 0, 4, .inl kf)), (mp, .inl (cA 0, 4, .inl pf)), (mz, .inl (cA 0, 4, .inl zf)), (me, .inl (cA 0, 4, .inl ef)), (mx, .inl (cA 0, 256, .inl xsf)), (mu, .inl (cA 1, 256, .inr (.inl ouf))), (mn, .inl (cA 0, 4, .inl tkf)), (mo, .inr (6, [.ref mw, .int (nI cnt), .ref mk, .ref mp, .ref mz, .ref me, .ref mtb, .ref my, .ref mx, .ref mu, .ref mn, .ref mg, .int hf, .int fro, .ref mf, .int (nI fsz), .ref mi, .int (nI ((rs_say (ouf ((64 * j) + k)) S Bf.1 Bf.2).2)), .int z, .ref mh, .ref mv, .int (nI rk), .long lf, .long lo, .ref ms])), (mi, .inl (cA 0, 700, .inl ((rs_say (ouf ((64 * j) + k)) S Bf.1 Bf.2).1)))] H := hP
      have hD : va_D A [(mk, .inl (cA 0, 4, .inl kf)), (mp, .inl (cA 0, 4, .inl pf)), (mz, .inl (cA 0, 4, .inl zf)), (me, .inl (cA 0, 4, .inl ef)), (mx, .inl (cA 0, 256, .inl xsf)), (mu, .inl (cA 1, 256, .inr (.inl ouf))), (mn, .inl (cA 0, 4, .inl tkf)), (mo, .inr (6, [.ref mw, .int (nI cnt), .ref mk, .ref mp, .ref mz, .ref me, .ref mtb, .ref my, .ref mx, .ref mu, .ref mn, .ref mg, .int hf, .int fro, .ref mf, .int (nI fsz), .ref mi, .int (nI ((rs_say (ouf ((64 * j) + k)) S Bf.1 Bf.2).2)), .int z, .ref mh, .ref mv, .int (nI rk), .long lf, .long lo, .ref ms])), (mi, .inl (cA 0, 700, .inl ((rs_say (ouf ((64 * j) + k)) S Bf.1 Bf.2).1)))] := hD
      obtain ⟨Bg, hBg⟩ : ∃ z, z = rs_say (ouf ((64 * j) + k)) S Bf.1 Bf.2 := ⟨_, rfl⟩
      rw [← hBg] at hP hD
      have hBg2 : Bg.2 = Bf.2 + S := by rw [hBg, rs_say_2]
      have hP : va_P (dC, dI) vwCl [(mk, .inl (cA 0, 4, .inl kf)), (mp, .inl (cA 0, 4, .inl pf)), (mz, .inl (cA 0, 4, .inl zf)), (me, .inl (cA 0, 4, .inl ef)), (mx, .inl (cA 0, 256, .inl xsf)), (mu, .inl (cA 1, 256, .inr (.inl ouf))), (mn, .inl (cA 0, 4, .inl tkf)), (mo, .inr (6, [.ref mw, .int (nI cnt), .ref mk, .ref mp, .ref mz, .ref me, .ref mtb, .ref my, .ref mx, .ref mu, .ref mn, .ref mg, .int hf, .int fro, .ref mf, .int (nI fsz), .ref mi, .int (nI Bg.2), .int z, .ref mh, .ref mv, .int (nI rk), .long lf, .long lo, .ref ms])), (mi, .inl (cA 0, 700, .inl Bg.1))] H := hP
      have hD : va_D A [(mk, .inl (cA 0, 4, .inl kf)), (mp, .inl (cA 0, 4, .inl pf)), (mz, .inl (cA 0, 4, .inl zf)), (me, .inl (cA 0, 4, .inl ef)), (mx, .inl (cA 0, 256, .inl xsf)), (mu, .inl (cA 1, 256, .inr (.inl ouf))), (mn, .inl (cA 0, 4, .inl tkf)), (mo, .inr (6, [.ref mw, .int (nI cnt), .ref mk, .ref mp, .ref mz, .ref me, .ref mtb, .ref my, .ref mx, .ref mu, .ref mn, .ref mg, .int hf, .int fro, .ref mf, .int (nI fsz), .ref mi, .int (nI Bg.2), .int z, .ref mh, .ref mv, .int (nI rk), .long lf, .long lo, .ref ms])), (mi, .inl (cA 0, 700, .inl Bg.1))] := hD
      refine lv_iinc (v := nI (k + 1)) (lv' := [(2, .int (nI (k + 1))), (0, .ref mo), (1, .int (nI j))]) hx hb dX6_image_125 hl (k := 0) rfl (nI_succ _).symm (by decide) rfl (fun ls hl => ?_)
      refine lv_goto (tgt := 77) hx hb dX6_image_128 (by decide) ?_
      have hi_hk : (k + 1) ≤ tk := (by omega)
      have hi_hB1 : Bg = rs_iml S j xsf ouf (rs_im5 K P S seed tk imf) (k + 1) := (by rw [hBg, hBf, hB1]; rfl)
      have hi_hB2 : Bg.2 = 9 + (k + 1) * (2 + S) := (by rw [hBg2, hBf2, hB2, Nat.add_mul]; omega)
      have hl9 : lv_has ls 3 [(2, .int (nI (k + 1))), (0, .ref mo), (1, .int (nI j))] := lv_sub hl [0, 1, 2] rfl
      have hP9 : va_P (dC, dI) vwCl [(mk, .inl (cA 0, 4, .inl kf)), (mp, .inl (cA 0, 4, .inl pf)), (mz, .inl (cA 0, 4, .inl zf)), (me, .inl (cA 0, 4, .inl ef)), (mx, .inl (cA 0, 256, .inl xsf)), (mu, .inl (cA 1, 256, .inr (.inl ouf))), (mn, .inl (cA 0, 4, .inl tkf)), (mo, .inr (6, [.ref mw, .int (nI cnt), .ref mk, .ref mp, .ref mz, .ref me, .ref mtb, .ref my, .ref mx, .ref mu, .ref mn, .ref mg, .int hf, .int fro, .ref mf, .int (nI fsz), .ref mi, .int (nI Bg.2), .int z, .ref mh, .ref mv, .int (nI rk), .long lf, .long lo, .ref ms])), (mi, .inl (cA 0, 700, .inl Bg.1))] H := hP
      have hD9 : va_D A [(mk, .inl (cA 0, 4, .inl kf)), (mp, .inl (cA 0, 4, .inl pf)), (mz, .inl (cA 0, 4, .inl zf)), (me, .inl (cA 0, 4, .inl ef)), (mx, .inl (cA 0, 256, .inl xsf)), (mu, .inl (cA 1, 256, .inr (.inl ouf))), (mn, .inl (cA 0, 4, .inl tkf)), (mo, .inr (6, [.ref mw, .int (nI cnt), .ref mk, .ref mp, .ref mz, .ref me, .ref mtb, .ref my, .ref mx, .ref mu, .ref mn, .ref mg, .int hf, .int fro, .ref mf, .int (nI fsz), .ref mi, .int (nI Bg.2), .int z, .ref mh, .ref mv, .int (nI rk), .long lf, .long lo, .ref ms])), (mi, .inl (cA 0, 700, .inl Bg.1))] := hD
      exact ih_L0 (k + 1) Bg H locs ls ⟨hi_hk, hi_hB1, hi_hB2, hl9, hP9, hD9, hS⟩ (by show tk - (k + 1) < tk - k; omega)
  · have c_2 : (sp_has cnt (nI j)) = 0 := c_2
    exact absurd c_2 (sp_has_nI hjc (by omega))
