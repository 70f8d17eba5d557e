set_option maxHeartbeats 4000000 in
set_option maxRecDepth 100000 in
theorem c_Bytes_has (l : Launch) (dC : Nat → ClassId) (dI : Nat → Nat → Nat) (cA : Nat → ClassId) (b : Nat) (ca : Nat) (len : Nat) (i : Int32)  : Met l yX0_has (kw_X0_has) ({ frames := 0, cells := 0, slots := 0, locals := 0 }) (va_Pc [.ref b, .int i] (fun U => kRO dC dI cA [(b, .inr (0, [.ref ca, .int (nI len)]))] U)) (vp_Si (fun r => r = sp_has len i)) 0 0 (fun _ => False) := by
  refine Met.ofW (cc := cX0_has) (maxL := 2) (ret := (some .boolean)) (by decide) rfl ?_
  intro p e s m args below meth c s₁ B hml hv
  obtain ⟨rfl, hP, hK, hN⟩ := hv
  have hx := B.exec
  have hb := B.bytes
  have hr := B.returns
  have hts0 := atoms_spec (ws := (kw_X0_has)) B.pre
  have hts : ∀ w ∈ TB, w.before _ s = true := fun w h => hts0 w (List.mem_cons_of_mem _ h)
  have hown : s.vm.findClass RX0 = some m.cls := findClass_of_methodNamed B.named
  have hlocks := B.notSynchronized
  have hk_0 := hts (.fieldLink RX0 21 "FountainRows$Bytes" "length" "I") tb_6
  have hl := lv_entry ([.ref b, .int i]) (n := 2) (Nat.le_of_ble_eq_true rfl)
  rw [lg_entry_eq]
  generalize (lg_sl ([.ref b, .int i]) ++ List.replicate (2 - (lg_sl ([.ref b, .int i])).length) Slot.unset).toArray = ls at hl ⊢
  have hl : lv_has ls 2 [(0, .ref b), (1, .int i)] := hl
  refine lv_iload_n hx hb dX0_has_0 rfl (lv_at hl 1 rfl) ?_
  refine lv_if_lt (tgt := 16) hx hb dX0_has_1 (by decide) (fun c_1 => ?_) (fun c_1 => ?_)
  · have c_1 : i < 0 := c_1
    refine lv_iconst (v := 0) hx hb dX0_has_16 (by decide) ?_
    exact W.zret (v := 0) hx hb hr (by decide) (fun t9 ht9 hW9 => ⟨0, rfl, (by unfold sp_has; rw [if_pos c_1] <;> rfl), ht9⟩) (fun _ h => absurd h List.not_mem_nil) dX0_has_17
  · have c_1 : ¬ (i < 0) := c_1
    refine lv_iload_n hx hb dX0_has_4 rfl (lv_at hl 1 rfl) ?_
    refine lv_aload_n hx hb dX0_has_5 rfl (lv_at hl 0 rfl) ?_
    refine va_get (D := (dC, dI)) (ci := 0) (v := .int (nI len)) (C := RX0) (T := TX0) (N := 2) hx hb hts inX0 hown hK hP 0 rfl rfl 1 (by decide) hk_0 (fun _ h9 => h9) rfl dX0_has_6 ?_
    refine lv_icmp_ge (tgt := 16) hx hb dX0_has_9 (by decide) (fun c_2 => ?_) (fun c_2 => ?_)
    · have c_2 : (nI len) ≤ i := c_2
      refine lv_iconst (v := 0) hx hb dX0_has_16 (by decide) ?_
      exact W.zret (v := 0) hx hb hr (by decide) (fun t9 ht9 hW9 => ⟨0, rfl, (by unfold sp_has; rw [if_neg c_1, if_pos c_2] <;> rfl), ht9⟩) (fun _ h => absurd h List.not_mem_nil) dX0_has_17
    · have c_2 : ¬ ((nI len) ≤ i) := c_2
      refine lv_iconst (v := 1) hx hb dX0_has_12 (by decide) ?_
      refine lv_goto (tgt := 17) hx hb dX0_has_13 (by decide) ?_
      exact W.zret (v := 1) hx hb hr (by decide) (fun t9 ht9 hW9 => ⟨1, rfl, (by unfold sp_has; rw [if_neg c_1, if_neg c_2] <;> rfl), ht9⟩) (fun _ h => absurd h List.not_mem_nil) dX0_has_17
set_option maxHeartbeats 4000000 in
set_option maxRecDepth 100000 in
theorem c_Bytes_at (l : Launch) (dC : Nat → ClassId) (dI : Nat → Nat → Nat) (cA : Nat → ClassId) (b : Nat) (ca : Nat) (n : Nat) (len : Nat) (f : Nat → Int32) (i : Int32) (hln : len ≤ n) (hn : n < 2 ^ 30) : Met l yX0_at (kw_X0_at) ({ frames := 1, cells := 0, slots := 0, locals := 21 }) (va_Pc [.ref b, .int i] (fun U => kRO dC dI cA [(b, .inr (0, [.ref ca, .int (nI len)])), (ca, .inl (cA 0, n, .inl f))] U)) (vp_Si (fun r => r = sp_at len f i)) 0 0 (fun _ => False) := by
  refine Met.ofW (cc := cX0_at) (maxL := 2) (ret := (some .int)) (by decide) rfl ?_
  intro p e s m args below meth c s₁ B hml hv
  obtain ⟨rfl, hP, hK, hN⟩ := hv
  have hx := B.exec
  have hb := B.bytes
  have hr := B.returns
  have hts0 := atoms_spec (ws := (kw_X0_at)) B.pre
  have hts : ∀ w ∈ TB, w.before _ s = true := fun w h => hts0 w (List.mem_cons_of_mem _ h)
  have hown : s.vm.findClass RX0 = some m.cls := findClass_of_methodNamed B.named
  have hlocks := B.notSynchronized
  have hk_0 := hts (.fieldLink RX0 15 "FountainRows$Bytes" "cells" "[I") tb_12
  have hl := lv_entry ([.ref b, .int i]) (n := 2) (Nat.le_of_ble_eq_true rfl)
  rw [lg_entry_eq]
  generalize (lg_sl ([.ref b, .int i]) ++ List.replicate (2 - (lg_sl ([.ref b, .int i])).length) Slot.unset).toArray = ls at hl ⊢
  have hl : lv_has ls 2 [(0, .ref b), (1, .int i)] := hl
  refine lv_aload_n hx hb dX0_at_0 rfl (lv_at hl 0 rfl) ?_
  refine lv_iload_n hx hb dX0_at_1 rfl (lv_at hl 1 rfl) ?_
  have hPc := hP.sub (ws' := [(b, .inr (0, [.ref ca, .int (nI len)]))]) [0] rfl
  refine kq_csi (va_runV (As := [.int i]) (rest := []) ⟨hx, hb, hml, hown, hts⟩ (c_Bytes_has l dC dI cA b ca len i) (cwV 1 hts (kg_V tb_8 tb_9 tb_10 tb_11 tb_7) rfl rfl rfl (by decide +kernel) ⟨Nat.le_of_ble_eq_true rfl, Nat.le_of_ble_eq_true rfl⟩) (kpv_ro hK hN hPc (ci := 0) (q0 := 0) rfl rfl rfl) rfl rfl hl.1 rfl (lv_room (Nat.le_of_ble_eq_true rfl)) dX0_at_2 ⟨Nat.le_of_ble_eq_true rfl, Nat.le_of_ble_eq_true rfl⟩) (fun r_1 hr_1 => ?_)
  subst hr_1
  refine lv_if_eq (tgt := 17) hx hb dX0_at_5 (by decide) (fun c_2 => ?_) (fun c_2 => ?_)
  · have c_2 : (sp_has len i) = 0 := c_2
    refine lv_iconst (v := 0) hx hb dX0_at_17 (by decide) ?_
    exact W.iret (v := 0) hx hb hr (fun t9 ht9 hW9 => ⟨0, rfl, (by unfold sp_at; rw [if_pos c_2] <;> rfl), ht9⟩) (fun _ h => absurd h List.not_mem_nil) dX0_at_18
  · have c_2 : ¬ ((sp_has len i) = 0) := c_2
    refine lv_aload_n hx hb dX0_at_8 rfl (lv_at hl 0 rfl) ?_
    refine va_get (D := (dC, dI)) (ci := 0) (v := .ref ca) (C := RX0) (T := TX0) (N := 2) hx hb hts inX0 hown hK hP 0 rfl rfl 0 (by decide) hk_0 (fun _ h9 => h9) rfl dX0_at_9 ?_
    refine lv_iload_n hx hb dX0_at_12 rfl (lv_at hl 1 rfl) ?_
    refine va_iald (D := (dC, dI)) hx hb hK hP 1 0 rfl rfl (sp_has_in c_2 hln (by omega)) dX0_at_13 ?_
    refine lv_goto (tgt := 18) hx hb dX0_at_14 (by decide) ?_
    exact W.iret (v := f i.toNatClampNeg) hx hb hr (fun t9 ht9 hW9 => ⟨f i.toNatClampNeg, rfl, (by unfold sp_at; rw [if_neg c_2] <;> rfl), ht9⟩) (fun _ h => absurd h List.not_mem_nil) dX0_at_18
set_option maxHeartbeats 4000000 in
set_option maxRecDepth 100000 in
theorem c_Bytes_put (l : Launch) (dC : Nat → ClassId) (dI : Nat → Nat → Nat) (cA : Nat → ClassId) (sz : Nat) (b : Nat) (ca : Nat) (n : Nat) (len : Nat) (f : Nat → Int32) (i : Int32) (v : Int32) (hln : len ≤ n) (hn : n < 2 ^ 30) : Met l yX0_put (kw_X0_put) ({ frames := 1, cells := 0, slots := 0, locals := 21 }) (va_Pc [.ref b, .int i, .int v] (fun U => kRW dC dI cA [(b, .inr (0, [.ref ca, .int (nI len)])), (ca, .inl (cA 0, n, .inl f))] sz U)) (va_Qv (fun (u : Unit) => True) (fun (u : Unit) t => kB dC dI (va_A [(b, .inr (0, [.ref ca, .int (nI len)])), (ca, .inl (cA 0, n, .inl f))] sz) [(b, .inr (0, [.ref ca, .int (nI len)])), (ca, .inl (cA 0, n, .inl (sp_put len f i v)))] t) (va_A [(b, .inr (0, [.ref ca, .int (nI len)])), (ca, .inl (cA 0, n, .inl f))] sz)) 0 0 (va_A [(b, .inr (0, [.ref ca, .int (nI len)])), (ca, .inl (cA 0, n, .inl f))] sz) := by
  refine Met.ofW (cc := cX0_put) (maxL := 3) (ret := none) (by decide) rfl ?_
  intro p e s m args below meth c s₁ B hml hv
  obtain ⟨rfl, hsz, hP, hK, hN, hD0⟩ := hv
  have hx := B.exec
  have hb := B.bytes
  have hr := B.returns
  have hts0 := atoms_spec (ws := (kw_X0_put)) B.pre
  have hts : ∀ w ∈ TB, w.before _ s = true := fun w h => hts0 w (List.mem_cons_of_mem _ h)
  have hown : s.vm.findClass RX0 = some m.cls := findClass_of_methodNamed B.named
  have hlocks := B.notSynchronized
  subst hsz
  have hD := hD0.self (sz := s.heap.size)
  generalize hAe : va_A [(b, .inr (0, [.ref ca, .int (nI len)])), (ca, .inl (cA 0, n, .inl f))] s.heap.size = A at hD ⊢
  have hA : ∀ q : Nat, s.heap.size ≤ q → A q := fun q h => by rw [← hAe]; exact Or.inr h
  have hS : va_S A s.heap s.heap [] := va_S.rf
  have hk_0 := hts (.fieldLink RX0 15 "FountainRows$Bytes" "cells" "[I") tb_12
  have hl := lv_entry ([.ref b, .int i, .int v]) (n := 3) (Nat.le_of_ble_eq_true rfl)
  rw [lg_entry_eq]
  generalize (lg_sl ([.ref b, .int i, .int v]) ++ List.replicate (3 - (lg_sl ([.ref b, .int i, .int v])).length) Slot.unset).toArray = ls at hl ⊢
  have hl : lv_has ls 3 [(0, .ref b), (1, .int i), (2, .int v)] := hl
  refine lv_aload_n hx hb dX0_put_0 rfl (lv_at hl 0 rfl) ?_
  refine lv_iload_n hx hb dX0_put_1 rfl (lv_at hl 1 rfl) ?_
  have hPc := hP.sub (ws' := [(b, .inr (0, [.ref ca, .int (nI len)]))]) [0] rfl
  refine kq_csi (va_runV (As := [.int i]) (rest := []) ⟨hx, hb, hml, hown, hts⟩ (c_Bytes_has l dC dI cA b ca len i) (cwV 1 hts (kg_V tb_8 tb_9 tb_10 tb_11 tb_7) rfl rfl rfl (by decide +kernel) ⟨Nat.le_of_ble_eq_true rfl, Nat.le_of_ble_eq_true rfl⟩) (kpv_ro hK hN hPc (ci := 0) (q0 := 0) rfl rfl rfl) rfl rfl hl.1 rfl (lv_room (Nat.le_of_ble_eq_true rfl)) dX0_put_2 ⟨Nat.le_of_ble_eq_true rfl, Nat.le_of_ble_eq_true rfl⟩) (fun r_1 hr_1 => ?_)
  subst hr_1
  refine lv_if_eq (tgt := 19) hx hb dX0_put_5 (by decide) (fun c_2 => ?_) (fun c_2 => ?_)
  · have c_2 : (sp_has len i) = 0 := c_2
    have hP9 := hP.sub (ws' := [(b, .inr (0, [.ref ca, .int (nI len)])), (ca, .inl (cA 0, n, .inl f))]) [0, 1] rfl
    have hD9 := hD.sub (ws' := [(b, .inr (0, [.ref ca, .int (nI len)])), (ca, .inl (cA 0, n, .inl f))]) [0, 1] (by decide) rfl
    have e9_0 : sp_put len f i v = f := (by unfold sp_put; rw [if_pos c_2] <;> rfl)
    have e9 : ([(b, .inr (0, [.ref ca, .int (nI len)])), (ca, .inl (cA 0, n, .inl (sp_put len f i v)))] : va_W) = [(b, .inr (0, [.ref ca, .int (nI len)])), (ca, .inl (cA 0, n, .inl f))] := by rw [e9_0]
    exact W.vret hx hb hr (fun t9 ht9 hW9 => ⟨⟨(), rfl, trivial, by rw [ht9, e9]; exact hP9, by rw [e9]; exact hD9⟩, hS.F ht9⟩) hS.2.2 dX0_put_19
  · have c_2 : ¬ ((sp_has len i) = 0) := c_2
    refine lv_aload_n hx hb dX0_put_8 rfl (lv_at hl 0 rfl) ?_
    refine va_get (D := (dC, dI)) (ci := 0) (v := .ref ca) (C := RX0) (T := TX0) (N := 2) hx hb hts inX0 hown hK hP 0 rfl rfl 0 (by decide) hk_0 (fun _ h9 => h9) rfl dX0_put_9 ?_
    refine lv_iload_n hx hb dX0_put_12 rfl (lv_at hl 1 rfl) ?_
    refine lv_iload_n hx hb dX0_put_13 rfl (lv_at hl 2 rfl) ?_
    refine lv_sipush (v := 255) hx hb dX0_put_14 (by decide) ?_
    refine lv_iand hx hb dX0_put_17 ?_
    refine va_iast (D := (dC, dI)) hx hb hK hP hD hS 1 0 rfl rfl (sp_has_in c_2 hln (by omega)) dX0_put_18 (fun H locs hP hD hS => ?_)
    have hP : va_P (dC, dI) vwCl [(b, .inr (0, [.ref ca, .int (nI len)])), (ca, .inl (cA 0, n, .inl (upd f i.toNatClampNeg (v &&& 255))))] H := hP
    have hD : va_D A [(b, .inr (0, [.ref ca, .int (nI len)])), (ca, .inl (cA 0, n, .inl (upd f i.toNatClampNeg (v &&& 255))))] := hD
    have hP9 := hP.sub (ws' := [(b, .inr (0, [.ref ca, .int (nI len)])), (ca, .inl (cA 0, n, .inl (upd f i.toNatClampNeg (v &&& 255))))]) [0, 1] rfl
    have hD9 := hD.sub (ws' := [(b, .inr (0, [.ref ca, .int (nI len)])), (ca, .inl (cA 0, n, .inl (upd f i.toNatClampNeg (v &&& 255))))]) [0, 1] (by decide) rfl
    have e9_0 : sp_put len f i v = upd f i.toNatClampNeg (v &&& 255) := (by unfold sp_put; rw [if_neg c_2] <;> rfl)
    have e9 : ([(b, .inr (0, [.ref ca, .int (nI len)])), (ca, .inl (cA 0, n, .inl (sp_put len f i v)))] : va_W) = [(b, .inr (0, [.ref ca, .int (nI len)])), (ca, .inl (cA 0, n, .inl (upd f i.toNatClampNeg (v &&& 255))))] := by rw [e9_0]
    exact W.vret hx hb hr (fun t9 ht9 hW9 => ⟨⟨(), rfl, trivial, by rw [ht9, e9]; exact hP9, by rw [e9]; exact hD9⟩, hS.F ht9⟩) hS.2.2 dX0_put_19
set_option maxHeartbeats 4000000 in
set_option maxRecDepth 100000 in
theorem c_Bytes_shorten (l : Launch) (dC : Nat → ClassId) (dI : Nat → Nat → Nat) (cA : Nat → ClassId) (sz : Nat) (b : Nat) (ca : Nat) (n : Nat) (len : Nat) (f : Nat → Int32) (j : Nat) (hln : len ≤ n) (hn : n < 2 ^ 30) (hj : j < 2 ^ 31) : Met l yX0_shorten (kw_X0_shorten) ({ frames := 0, cells := 0, slots := 0, locals := 0 }) (va_Pc [.ref b, .int (nI j)] (fun U => kRW dC dI cA [(b, .inr (0, [.ref ca, .int (nI len)])), (ca, .inl (cA 0, n, .inl f))] sz U)) (va_Qv (fun (u : Unit) => True) (fun (u : Unit) t => kB dC dI (va_A [(b, .inr (0, [.ref ca, .int (nI len)])), (ca, .inl (cA 0, n, .inl f))] sz) [(b, .inr (0, [.ref ca, .int (nI (if j < len then j else len))])), (ca, .inl (cA 0, n, .inl f))] t) (va_A [(b, .inr (0, [.ref ca, .int (nI len)])), (ca, .inl (cA 0, n, .inl f))] sz)) 0 0 (va_A [(b, .inr (0, [.ref ca, .int (nI len)])), (ca, .inl (cA 0, n, .inl f))] sz) := by
  refine Met.ofW (cc := cX0_shorten) (maxL := 2) (ret := none) (by decide) rfl ?_
  intro p e s m args below meth c s₁ B hml hv
  obtain ⟨rfl, hsz, hP, hK, hN, hD0⟩ := hv
  have hx := B.exec
  have hb := B.bytes
  have hr := B.returns
  have hts0 := atoms_spec (ws := (kw_X0_shorten)) B.pre
  have hts : ∀ w ∈ TB, w.before _ s = true := fun w h => hts0 w (List.mem_cons_of_mem _ h)
  have hown : s.vm.findClass RX0 = some m.cls := findClass_of_methodNamed B.named
  have hlocks := B.notSynchronized
  subst hsz
  have hD := hD0.self (sz := s.heap.size)
  generalize hAe : va_A [(b, .inr (0, [.ref ca, .int (nI len)])), (ca, .inl (cA 0, n, .inl f))] s.heap.size = A at hD ⊢
  have hA : ∀ q : Nat, s.heap.size ≤ q → A q := fun q h => by rw [← hAe]; exact Or.inr h
  have hS : va_S A s.heap s.heap [] := va_S.rf
  have hk_0 := hts (.fieldLink RX0 21 "FountainRows$Bytes" "length" "I") tb_6
  have hl := lv_entry ([.ref b, .int (nI j)]) (n := 2) (Nat.le_of_ble_eq_true rfl)
  rw [lg_entry_eq]
  generalize (lg_sl ([.ref b, .int (nI j)]) ++ List.replicate (2 - (lg_sl ([.ref b, .int (nI j)])).length) Slot.unset).toArray = ls at hl ⊢
  have hl : lv_has ls 2 [(0, .ref b), (1, .int (nI j))] := hl
  refine lv_iload_n hx hb dX0_shorten_0 rfl (lv_at hl 1 rfl) ?_
  refine lv_if_lt (tgt := 17) hx hb dX0_shorten_1 (by decide) (fun c_1 => ?_) (fun c_1 => ?_)
  · have c_1 : (nI j) < 0 := c_1
    exact absurd c_1 (nI_pos hj)
  · have c_1 : ¬ ((nI j) < 0) := c_1
    refine lv_iload_n hx hb dX0_shorten_4 rfl (lv_at hl 1 rfl) ?_
    refine lv_aload_n hx hb dX0_shorten_5 rfl (lv_at hl 0 rfl) ?_
    refine va_get (D := (dC, dI)) (ci := 0) (v := .int (nI len)) (C := RX0) (T := TX0) (N := 2) hx hb hts inX0 hown hK hP 0 rfl rfl 1 (by decide) hk_0 (fun _ h9 => h9) rfl dX0_shorten_6 ?_
    refine lv_icmp_ge (tgt := 17) hx hb dX0_shorten_9 (by decide) (fun c_2 => ?_) (fun c_2 => ?_)
    · have c_2 : (nI len) ≤ (nI j) := c_2
      have hk9 : len ≤ j := (ku_le (a := len) (b := j) (by omega) (by omega)).mp c_2
      have hP9 := hP.sub (ws' := [(b, .inr (0, [.ref ca, .int (nI len)])), (ca, .inl (cA 0, n, .inl f))]) [0, 1] rfl
      have hD9 := hD.sub (ws' := [(b, .inr (0, [.ref ca, .int (nI len)])), (ca, .inl (cA 0, n, .inl f))]) [0, 1] (by decide) rfl
      have e9_0 : nI (if j < len then j else len) = nI len := (by first | rw [if_pos hk9] | rw [if_neg (by omega)])
      have e9 : ([(b, .inr (0, [.ref ca, .int (nI (if j < len then j else len))])), (ca, .inl (cA 0, n, .inl f))] : va_W) = [(b, .inr (0, [.ref ca, .int (nI len)])), (ca, .inl (cA 0, n, .inl f))] := by rw [e9_0]
      exact W.vret hx hb hr (fun t9 ht9 hW9 => ⟨⟨(), rfl, trivial, by rw [ht9, e9]; exact hP9, by rw [e9]; exact hD9⟩, hS.F ht9⟩) hS.2.2 dX0_shorten_17
    · have c_2 : ¬ ((nI len) ≤ (nI j)) := c_2
      have hk9 : j < len := (ku_nle (a := len) (b := j) (by omega) (by omega)).mp c_2
      refine lv_aload_n hx hb dX0_shorten_12 rfl (lv_at hl 0 rfl) ?_
      refine lv_iload_n hx hb dX0_shorten_13 rfl (lv_at hl 1 rfl) ?_
      refine va_put (D := (dC, dI)) (ci := 0) (v := .int (nI j)) (ty := .int) (C := RX0) (T := TX0) (N := 2) hx hb hts inX0 tyX0 tyX0_ok nmX0 hown hK hP hD hS 0 rfl rfl 1 (by decide) hk_0 (fun _ h9 => h9) rfl (by decide +kernel) rfl rfl (Nat.le_of_ble_eq_true rfl) dX0_shorten_14 (fun H locs hP hD hS => ?_)
      have hP : va_P (dC, dI) vwCl [(b, .inr (0, [.ref ca, .int (nI j)])), (ca, .inl (cA 0, n, .inl f))] H := hP
      have hD : va_D A [(b, .inr (0, [.ref ca, .int (nI j)])), (ca, .inl (cA 0, n, .inl f))] := hD
      have hP9 := hP.sub (ws' := [(b, .inr (0, [.ref ca, .int (nI j)])), (ca, .inl (cA 0, n, .inl f))]) [0, 1] rfl
      have hD9 := hD.sub (ws' := [(b, .inr (0, [.ref ca, .int (nI j)])), (ca, .inl (cA 0, n, .inl f))]) [0, 1] (by decide) rfl
      have e9_0 : nI (if j < len then j else len) = nI j := (by first | rw [if_pos hk9] | rw [if_neg (by omega)])
      have e9 : ([(b, .inr (0, [.ref ca, .int (nI (if j < len then j else len))])), (ca, .inl (cA 0, n, .inl f))] : va_W) = [(b, .inr (0, [.ref ca, .int (nI j)])), (ca, .inl (cA 0, n, .inl f))] := by rw [e9_0]
      exact W.vret hx hb hr (fun t9 ht9 hW9 => ⟨⟨(), rfl, trivial, by rw [ht9, e9]; exact hP9, by rw [e9]; exact hD9⟩, hS.F ht9⟩) hS.2.2 dX0_shorten_17
set_option maxHeartbeats 4000000 in
set_option maxRecDepth 100000 in
theorem c_Bytes_append (l : Launch) (dC : Nat → ClassId) (dI : Nat → Nat → Nat) (cA : Nat → ClassId) (sz : Nat) (b : Nat) (ca : Nat) (n : Nat) (len : Nat) (f : Nat → Int32) (num : Int64) (cn : Nat) (hln : len ≤ n) (hn : n < 2 ^ 30) (hc : cn ≤ 100) : Met l yX0_append (kw_X0_append) ({ frames := 2, cells := 0, slots := 0, locals := 43 }) (va_Pc [.ref b, .long num, .int (nI cn)] (fun U => kRW dC dI cA [(b, .inr (0, [.ref ca, .int (nI len)])), (ca, .inl (cA 0, n, .inl f))] sz U)) (va_Qv (fun (u : Unit) => True) (fun (u : Unit) t => kB dC dI (va_A [(b, .inr (0, [.ref ca, .int (nI len)])), (ca, .inl (cA 0, n, .inl f))] sz) [(b, .inr (0, [.ref ca, .int (nI ((sp_app n num cn f len).2))])), (ca, .inl (cA 0, n, .inl ((sp_app n num cn f len).1)))] t) (va_A [(b, .inr (0, [.ref ca, .int (nI len)])), (ca, .inl (cA 0, n, .inl f))] sz)) 0 0 (va_A [(b, .inr (0, [.ref ca, .int (nI len)])), (ca, .inl (cA 0, n, .inl f))] sz) := by
  refine Met.ofW (cc := cX0_append) (maxL := 5) (ret := none) (by decide) rfl ?_
  intro p e s m args below meth c s₁ B hml hv
  obtain ⟨rfl, hsz, hP, hK, hN, hD0⟩ := hv
  have hx := B.exec
  have hb := B.bytes
  have hr := B.returns
  have hts0 := atoms_spec (ws := (kw_X0_append)) B.pre
  have hts : ∀ w ∈ TB, w.before _ s = true := fun w h => hts0 w (List.mem_cons_of_mem _ h)
  have hown : s.vm.findClass RX0 = some m.cls := findClass_of_methodNamed B.named
  have hlocks := B.notSynchronized
  subst hsz
  have hD := hD0.self (sz := s.heap.size)
  generalize hAe : va_A [(b, .inr (0, [.ref ca, .int (nI len)])), (ca, .inl (cA 0, n, .inl f))] s.heap.size = A at hD ⊢
  have hA : ∀ q : Nat, s.heap.size ≤ q → A q := fun q h => by rw [← hAe]; exact Or.inr h
  have hS : va_S A s.heap s.heap [] := va_S.rf
  have hk_0 := hts (.fieldLink RX0 21 "FountainRows$Bytes" "length" "I") tb_6
  have hk_1 := hts (.fieldLink RX0 15 "FountainRows$Bytes" "cells" "[I") tb_12
  have hl := lv_entry ([.ref b, .long num, .int (nI cn)]) (n := 5) (Nat.le_of_ble_eq_true rfl)
  rw [lg_entry_eq]
  generalize (lg_sl ([.ref b, .long num, .int (nI cn)]) ++ List.replicate (5 - (lg_sl ([.ref b, .long num, .int (nI cn)])).length) Slot.unset).toArray = ls at hl ⊢
  have hl : lv_has ls 5 [(0, .ref b), (1, .long num), (3, .int (nI cn))] := hl
  refine lv_iload_n hx hb dX0_append_0 rfl (lv_at hl 2 rfl) ?_
  refine lv_iconst (v := 1) hx hb dX0_append_1 (by decide) ?_
  refine lv_isub hx hb dX0_append_2 ?_
  refine lv_istore (lv' := [(4, .int ((nI cn) - 1)), (0, .ref b), (1, .long num), (3, .int (nI cn))]) hx hb dX0_append_3 hl (by decide) rfl (fun ls hl => ?_)
  have hi_hr9 : cn ≤ cn := (Nat.le_refl _)
  have hi_hle : len ≤ n := hln
  have hi_heq : sp_app n num cn f len = sp_app n num cn f len := rfl
  have hl9 : lv_has ls 5 [(4, .int (nI cn - 1)), (0, .ref b), (1, .long num), (3, .int (nI cn))] := lv_sub hl [0, 1, 2, 3] rfl
  refine k_loop3 (I := fun (r : Nat) (len1 : Nat) (f1 : Nat → Int32) (H : Heap) (locs : List Loc) (ls : Array Slot) => (r ≤ cn) ∧ (len1 ≤ n) ∧ (sp_app n num r f1 len1 = sp_app n num cn f len) ∧ lv_has ls 5 [(4, .int (nI r - 1)), (0, .ref b), (1, .long num), (3, .int (nI cn))] ∧ va_P (dC, dI) vwCl [(b, .inr (0, [.ref ca, .int (nI len1)])), (ca, .inl (cA 0, n, .inl f1))] H ∧ va_D A [(b, .inr (0, [.ref ca, .int (nI len1)])), (ca, .inl (cA 0, n, .inl f1))] ∧ va_S A s.heap H locs) (μ := fun r len1 f1 => r) ?_ cn len f ⟨hi_hr9, hi_hle, hi_heq, hl9, hP, hD, hS⟩
  intro r len1 f1 H locs ls hI9 ih_L0
  obtain ⟨hr9, hle, heq, hl, hP, hD, hS⟩ := hI9
  refine lv_iload hx hb dX0_append_5 (lv_at hl 0 rfl) ?_
  refine lv_if_lt (tgt := 56) hx hb dX0_append_7 (by decide) (fun c_1 => ?_) (fun c_1 => ?_)
  · have c_1 : (nI r - 1) < 0 := c_1
    have h0 : r = 0 := by have := (ku_neg (a := r) (b := 1) (by omega) (by omega)).mp c_1; omega
    subst h0
    have hP9 := hP.sub (ws' := [(b, .inr (0, [.ref ca, .int (nI len1)])), (ca, .inl (cA 0, n, .inl f1))]) [0, 1] rfl
    have hD9 := hD.sub (ws' := [(b, .inr (0, [.ref ca, .int (nI len1)])), (ca, .inl (cA 0, n, .inl f1))]) [0, 1] (by decide) rfl
    have e9_0 : nI ((sp_app n num cn f len).2) = nI len1 := (by rw [← heq]; first | rfl | (rw [sp_app, if_neg (by omega)]))
    have e9_1 : (sp_app n num cn f len).1 = f1 := (by rw [← heq]; first | rfl | (rw [sp_app, if_neg (by omega)]))
    have e9 : ([(b, .inr (0, [.ref ca, .int (nI ((sp_app n num cn f len).2))])), (ca, .inl (cA 0, n, .inl ((sp_app n num cn f len).1)))] : va_W) = [(b, .inr (0, [.ref ca, .int (nI len1)])), (ca, .inl (cA 0, n, .inl f1))] := by rw [e9_0, e9_1]
    exact W.vret hx hb hr (fun t9 ht9 hW9 => ⟨⟨(), rfl, trivial, by rw [ht9, e9]; exact hP9, by rw [e9]; exact hD9⟩, hS.F ht9⟩) hS.2.2 dX0_append_56
  · have c_1 : ¬ ((nI r - 1) < 0) := c_1
    obtain ⟨r1, rfl⟩ : ∃ r1, r = r1 + 1 := ⟨r - 1, by have := mt (ku_neg (a := r) (b := 1) (by omega) (by omega)).mpr c_1; omega⟩
    rw [nI_pred] at hl
    refine lv_aload_n hx hb dX0_append_10 rfl (lv_at hl 1 rfl) ?_
    refine va_get (D := (dC, dI)) (ci := 0) (v := .int (nI len1)) (C := RX0) (T := TX0) (N := 2) hx hb hts inX0 hown hK hP 0 rfl rfl 1 (by decide) hk_0 (fun _ h9 => h9) rfl dX0_append_11 ?_
    refine lv_aload_n hx hb dX0_append_14 rfl (lv_at hl 1 rfl) ?_
    refine va_get (D := (dC, dI)) (ci := 0) (v := .ref ca) (C := RX0) (T := TX0) (N := 2) hx hb hts inX0 hown hK hP 0 rfl rfl 0 (by decide) hk_1 (fun _ h9 => h9) rfl dX0_append_15 ?_
    refine va_alen (D := (dC, dI)) (v := nI n) hx hb hK hP 1 0 rfl rfl rfl dX0_append_18 ?_
    refine lv_icmp_ge (tgt := 56) hx hb dX0_append_19 (by decide) (fun c_2 => ?_) (fun c_2 => ?_)
    · have c_2 : (nI n) ≤ (nI len1) := c_2
      have hk9 : n ≤ len1 := (ku_le (a := n) (b := len1) (by omega) (by omega)).mp c_2
      have hP9 := hP.sub (ws' := [(b, .inr (0, [.ref ca, .int (nI len1)])), (ca, .inl (cA 0, n, .inl f1))]) [0, 1] rfl
      have hD9 := hD.sub (ws' := [(b, .inr (0, [.ref ca, .int (nI len1)])), (ca, .inl (cA 0, n, .inl f1))]) [0, 1] (by decide) rfl
      have e9_0 : nI ((sp_app n num cn f len).2) = nI len1 := (by rw [← heq]; first | rfl | (rw [sp_app, if_neg (by omega)]))
      have e9_1 : (sp_app n num cn f len).1 = f1 := (by rw [← heq]; first | rfl | (rw [sp_app, if_neg (by omega)]))
      have e9 : ([(b, .inr (0, [.ref ca, .int (nI ((sp_app n num cn f len).2))])), (ca, .inl (cA 0, n, .inl ((sp_app n num cn f len).1)))] : va_W) = [(b, .inr (0, [.ref ca, .int (nI len1)])), (ca, .inl (cA 0, n, .inl f1))] := by rw [e9_0, e9_1]
      exact W.vret hx hb hr (fun t9 ht9 hW9 => ⟨⟨(), rfl, trivial, by rw [ht9, e9]; exact hP9, by rw [e9]; exact hD9⟩, hS.F ht9⟩) hS.2.2 dX0_append_56
    · have c_2 : ¬ ((nI n) ≤ (nI len1)) := c_2
      have hk9 : len1 < n := (ku_nle (a := n) (b := len1) (by omega) (by omega)).mp c_2
      refine lv_aload_n hx hb dX0_append_22 rfl (lv_at hl 1 rfl) ?_
      refine lv_dup hx hb dX0_append_23 rfl ?_
      refine va_get (D := (dC, dI)) (ci := 0) (v := .int (nI len1)) (C := RX0) (T := TX0) (N := 2) hx hb hts inX0 hown hK hP 0 rfl rfl 1 (by decide) hk_0 (fun _ h9 => h9) rfl dX0_append_24 ?_
      refine lv_iconst (v := 1) hx hb dX0_append_27 (by decide) ?_
      refine lv_iadd hx hb dX0_append_28 ?_
      refine kt_i (y := nI (len1 + 1)) (nI_add len1 1) ?_
      refine va_put (D := (dC, dI)) (ci := 0) (v := .int (nI (len1 + 1))) (ty := .int) (C := RX0) (T := TX0) (N := 2) hx hb hts inX0 tyX0 tyX0_ok nmX0 hown hK hP hD hS 0 rfl rfl 1 (by decide) hk_0 (fun _ h9 => h9) rfl (by decide +kernel) rfl rfl (Nat.le_of_ble_eq_true rfl) dX0_append_29 (fun H locs hP hD hS => ?_)
      have hP : va_P (dC, dI) vwCl [(b, .inr (0, [.ref ca, .int (nI (len1 + 1))])), (ca, .inl (cA 0, n, .inl f1))] H := hP
      have hD : va_D A [(b, .inr (0, [.ref ca, .int (nI (len1 + 1))])), (ca, .inl (cA 0, n, .inl f1))] := hD
      refine lv_aload_n hx hb dX0_append_32 rfl (lv_at hl 1 rfl) ?_
      refine lv_aload_n hx hb dX0_append_33 rfl (lv_at hl 1 rfl) ?_
      refine va_get (D := (dC, dI)) (ci := 0) (v := .int (nI (len1 + 1))) (C := RX0) (T := TX0) (N := 2) hx hb hts inX0 hown hK hP 0 rfl rfl 1 (by decide) hk_0 (fun _ h9 => h9) rfl dX0_append_34 ?_
      refine lv_iconst (v := 1) hx hb dX0_append_37 (by decide) ?_
      refine lv_isub hx hb dX0_append_38 ?_
      refine kt_i (y := nI len1) (nI_pred len1) ?_
      refine lv_lload_n hx hb dX0_append_39 rfl (lv_at hl 2 rfl) ?_
      refine lv_bipush (v := 8) hx hb dX0_append_40 (by decide) ?_
      refine lv_iload hx hb dX0_append_42 (lv_at hl 0 rfl) ?_
      refine lv_imul hx hb dX0_append_44 ?_
      refine kt_i (y := nI (8 * r1)) (pk_mul 8 r1) ?_
      refine lv_lushr (v := jv_lushr num (nI (8 * r1))) hx hb dX0_append_45 rfl ?_
      refine lv_l2i (v := (jv_lushr num (nI (8 * r1))).toInt32) hx hb dX0_append_46 rfl ?_
      have hPc := hP.sub (ws' := [(b, .inr (0, [.ref ca, .int (nI (len1 + 1))])), (ca, .inl (cA 0, n, .inl f1))]) [0, 1] rfl
      have hDc := hD.sub (ws' := [(b, .inr (0, [.ref ca, .int (nI (len1 + 1))])), (ca, .inl (cA 0, n, .inl f1))]) [0, 1] (by decide) rfl
      have hFc := va_free (wc := [(b, .inr (0, [.ref ca, .int (nI (len1 + 1))])), (ca, .inl (cA 0, n, .inl f1))]) hD hS hA [0, 1] rfl
      refine va_callv (va_runV (As := [.int (nI len1), .int ((jv_lushr num (nI (8 * r1))).toInt32)]) (rest := []) ⟨hx, hb, hml, hown, hts⟩ (c_Bytes_put l dC dI cA H.size b ca n (len1 + 1) f1 (nI len1) ((jv_lushr num (nI (8 * r1))).toInt32) (by first | assumption | omega) (by first | assumption | omega)) (cwV 2 hts (kg_V tb_14 tb_15 tb_16 tb_11 tb_13) rfl rfl rfl (by decide +kernel) ⟨Nat.le_of_ble_eq_true rfl, Nat.le_of_ble_eq_true rfl⟩) (kpv_rw hK hN hPc hDc (ci := 0) (q0 := 0) rfl rfl rfl) rfl rfl hl.1 rfl (lv_room (Nat.le_of_ble_eq_true rfl)) dX0_append_47 ⟨Nat.le_of_ble_eq_true rfl, Nat.le_of_ble_eq_true rfl⟩) hS (fun q _ h => hFc q h) hFc (fun u9 t9 H1 locs ht9 hvm9 hr_3 hB hz1 hk1 hS => ?_)
      obtain ⟨hP1, hD1⟩ := hB
      rw [ht9] at hP1
      obtain ⟨hP, hD⟩ := va_join (wr := []) (w1 := [(b, .inr (0, [.ref ca, .int (nI (len1 + 1))])), (ca, .inl (cA 0, n, .inl (sp_put (len1 + 1) f1 (nI len1) ((jv_lushr num (nI (8 * r1))).toInt32))))]) hP hD [0, 1] [] rfl rfl (by decide) (by decide) hk1 hFc hP1 hD1
      generalize H1 = H at hP hS ⊢
      have hP : va_P (dC, dI) vwCl [(b, .inr (0, [.ref ca, .int (nI (len1 + 1))])), (ca, .inl (cA 0, n, .inl (sp_put (len1 + 1) f1 (nI len1) ((jv_lushr num (nI (8 * r1))).toInt32))))] H := hP
      have hD : va_D A [(b, .inr (0, [.ref ca, .int (nI (len1 + 1))])), (ca, .inl (cA 0, n, .inl (sp_put (len1 + 1) f1 (nI len1) ((jv_lushr num (nI (8 * r1))).toInt32))))] := hD
      refine lv_iinc (v := (nI r1) - 1) (lv' := [(4, .int ((nI r1) - 1)), (0, .ref b), (1, .long num), (3, .int (nI cn))]) hx hb dX0_append_50 hl (k := 0) rfl (ku_dec _) (by decide) rfl (fun ls hl => ?_)
      refine lv_goto (tgt := 5) hx hb dX0_append_53 (by decide) ?_
      have hi_hr9 : r1 ≤ cn := (by omega)
      have hi_hle : (len1 + 1) ≤ n := (by omega)
      have hi_heq : sp_app n num r1 (sp_put (len1 + 1) f1 (nI len1) ((jv_lushr num (nI (8 * r1))).toInt32)) (len1 + 1) = sp_app n num cn f len := (by rw [← heq]; show _ = sp_app n num (r1 + 1) f1 len1; rw [sp_app, if_pos hk9]; rfl)
      have hl9 : lv_has ls 5 [(4, .int (nI r1 - 1)), (0, .ref b), (1, .long num), (3, .int (nI cn))] := lv_sub hl [0, 1, 2, 3] rfl
      have hP9 : va_P (dC, dI) vwCl [(b, .inr (0, [.ref ca, .int (nI (len1 + 1))])), (ca, .inl (cA 0, n, .inl (sp_put (len1 + 1) f1 (nI len1) ((jv_lushr num (nI (8 * r1))).toInt32))))] H := hP
      have hD9 : va_D A [(b, .inr (0, [.ref ca, .int (nI (len1 + 1))])), (ca, .inl (cA 0, n, .inl (sp_put (len1 + 1) f1 (nI len1) ((jv_lushr num (nI (8 * r1))).toInt32))))] := hD
      exact ih_L0 r1 (len1 + 1) (sp_put (len1 + 1) f1 (nI len1) ((jv_lushr num (nI (8 * r1))).toInt32)) H locs ls ⟨hi_hr9, hi_hle, hi_heq, hl9, hP9, hD9, hS⟩ (by show r1 < r1 + 1; omega)
set_option maxHeartbeats 4000000 in
set_option maxRecDepth 100000 in
theorem c_Bytes_numberAt (l : Launch) (dC : Nat → ClassId) (dI : Nat → Nat → Nat) (cA : Nat → ClassId) (b : Nat) (ca : Nat) (n : Nat) (len : Nat) (f : Nat → Int32) (fr : Int32) (cn : Nat) (hln : len ≤ n) (hn : n < 2 ^ 30) (hc : cn < 2 ^ 31) : Met l yX0_numberAt (kw_X0_numberAt) ({ frames := 2, cells := 0, slots := 0, locals := 42 }) (va_Pc [.ref b, .int fr, .int (nI cn)] (fun U => kRO dC dI cA [(b, .inr (0, [.ref ca, .int (nI len)])), (ca, .inl (cA 0, n, .inl f))] U)) (vp_Sl (fun r => r = sp_num len f fr cn)) 0 0 (fun _ => False) := by
  refine Met.ofW (cc := cX0_numberAt) (maxL := 6) (ret := (some .long)) (by decide) rfl ?_
  intro p e s m args below meth c s₁ B hml hv
  obtain ⟨rfl, hP, hK, hN⟩ := hv
  have hx := B.exec
  have hb := B.bytes
  have hr := B.returns
  have hts0 := atoms_spec (ws := (kw_X0_numberAt)) B.pre
  have hts : ∀ w ∈ TB, w.before _ s = true := fun w h => hts0 w (List.mem_cons_of_mem _ h)
  have hown : s.vm.findClass RX0 = some m.cls := findClass_of_methodNamed B.named
  have hlocks := B.notSynchronized
  have hl := lv_entry ([.ref b, .int fr, .int (nI cn)]) (n := 6) (Nat.le_of_ble_eq_true rfl)
  rw [lg_entry_eq]
  generalize (lg_sl ([.ref b, .int fr, .int (nI cn)]) ++ List.replicate (6 - (lg_sl ([.ref b, .int fr, .int (nI cn)])).length) Slot.unset).toArray = ls at hl ⊢
  have hl : lv_has ls 6 [(0, .ref b), (1, .int fr), (2, .int (nI cn))] := hl
  refine lv_lconst (v := 0) hx hb dX0_numberAt_0 (by decide) ?_
  refine lv_lstore_n (lv' := [(3, .long 0), (0, .ref b), (1, .int fr), (2, .int (nI cn))]) hx hb dX0_numberAt_1 rfl hl (by decide) rfl (fun ls hl => ?_)
  refine lv_iconst (v := 0) hx hb dX0_numberAt_2 (by decide) ?_
  refine lv_istore (lv' := [(5, .int 0), (3, .long 0), (0, .ref b), (1, .int fr), (2, .int (nI cn))]) hx hb dX0_numberAt_3 hl (by decide) rfl (fun ls hl => ?_)
  have hi_hk : 0 ≤ cn := (by omega)
  have hi_hx9 : 0 = sp_num len f fr 0 := rfl
  have hl9 : lv_has ls 6 [(5, .int (nI 0)), (3, .long 0), (0, .ref b), (1, .int fr), (2, .int (nI cn))] := lv_sub hl [0, 1, 2, 3, 4] rfl
  refine r_loop2 (I := fun (k : Nat) (x : Int64) (ls : Array Slot) => (k ≤ cn) ∧ (x = sp_num len f fr k) ∧ lv_has ls 6 [(5, .int (nI k)), (3, .long x), (0, .ref b), (1, .int fr), (2, .int (nI cn))]) (μ := fun k x => cn - k) ?_ 0 0 ⟨hi_hk, hi_hx9, hl9⟩
  intro k x ls hI9 ih_L0
  obtain ⟨hk, hx9, hl⟩ := hI9
  refine lv_iload hx hb dX0_numberAt_5 (lv_at hl 0 rfl) ?_
  refine lv_iload_n hx hb dX0_numberAt_7 rfl (lv_at hl 4 rfl) ?_
  refine lv_icmp_ge (tgt := 32) hx hb dX0_numberAt_8 (by decide) (fun c_1 => ?_) (fun c_1 => ?_)
  · have c_1 : (nI cn) ≤ (nI k) := c_1
    have hk9 : cn ≤ k := (ku_le (a := cn) (b := k) (by omega) (by omega)).mp c_1
    refine lv_lload_n hx hb dX0_numberAt_32 rfl (lv_at hl 1 rfl) ?_
    exact W.lret (v := x) hx hb hr (fun t9 ht9 hW9 => ⟨x, rfl, (by have e : k = cn := (by omega); rw [hx9, e]), ht9⟩) (fun _ h => absurd h List.not_mem_nil) dX0_numberAt_33
  · have c_1 : ¬ ((nI cn) ≤ (nI k)) := c_1
    have hk9 : k < cn := (ku_nle (a := cn) (b := k) (by omega) (by omega)).mp c_1
    refine lv_lload_n hx hb dX0_numberAt_11 rfl (lv_at hl 1 rfl) ?_
    refine lv_bipush (v := 8) hx hb dX0_numberAt_12 (by decide) ?_
    refine lv_lshl (v := jv_lshl x (8 : Int32)) hx hb dX0_numberAt_14 rfl ?_
    refine lv_aload_n hx hb dX0_numberAt_15 rfl (lv_at hl 2 rfl) ?_
    refine lv_iload_n hx hb dX0_numberAt_16 rfl (lv_at hl 3 rfl) ?_
    refine lv_iload hx hb dX0_numberAt_17 (lv_at hl 0 rfl) ?_
    refine lv_iadd hx hb dX0_numberAt_19 ?_
    have hPc := hP.sub (ws' := [(b, .inr (0, [.ref ca, .int (nI len)])), (ca, .inl (cA 0, n, .inl f))]) [0, 1] rfl
    refine kq_csi (va_runV (As := [.int (fr + (nI k))]) (rest := [.long (jv_lshl x (8 : Int32))]) ⟨hx, hb, hml, hown, hts⟩ (c_Bytes_at l dC dI cA b ca n len f (fr + (nI k)) (by first | assumption | omega) (by first | assumption | omega)) (cwV 1 hts (kg_V tb_18 tb_19 tb_20 tb_11 tb_17) rfl rfl rfl (by decide +kernel) ⟨Nat.le_of_ble_eq_true rfl, Nat.le_of_ble_eq_true rfl⟩) (kpv_ro hK hN hPc (ci := 0) (q0 := 0) rfl rfl rfl) rfl rfl hl.1 rfl (lv_room (Nat.le_of_ble_eq_true rfl)) dX0_numberAt_20 ⟨Nat.le_of_ble_eq_true rfl, Nat.le_of_ble_eq_true rfl⟩) (fun r_2 hr_2 => ?_)
    subst hr_2
    refine lv_i2l (v := (sp_at len f (fr + (nI k))).toInt64) hx hb dX0_numberAt_23 rfl ?_
    refine lv_lor hx hb dX0_numberAt_24 ?_
    refine lv_lstore_n (lv' := [(3, .long ((jv_lshl x (8 : Int32)) ||| ((sp_at len f (fr + (nI k))).toInt64))), (5, .int (nI k)), (0, .ref b), (1, .int fr), (2, .int (nI cn))]) hx hb dX0_numberAt_25 rfl hl (by decide) rfl (fun ls hl => ?_)
    refine lv_iinc (v := nI (k + 1)) (lv' := [(5, .int (nI (k + 1))), (3, .long ((jv_lshl x (8 : Int32)) ||| ((sp_at len f (fr + (nI k))).toInt64))), (0, .ref b), (1, .int fr), (2, .int (nI cn))]) hx hb dX0_numberAt_26 hl (k := 1) rfl (nI_succ _).symm (by decide) rfl (fun ls hl => ?_)
    refine lv_goto (tgt := 5) hx hb dX0_numberAt_29 (by decide) ?_
    have hi_hk : (k + 1) ≤ cn := (by omega)
    have hi_hx9 : ((jv_lshl x (8 : Int32)) ||| ((sp_at len f (fr + (nI k))).toInt64)) = sp_num len f fr (k + 1) := (by rw [hx9]; rfl)
    have hl9 : lv_has ls 6 [(5, .int (nI (k + 1))), (3, .long ((jv_lshl x (8 : Int32)) ||| ((sp_at len f (fr + (nI k))).toInt64))), (0, .ref b), (1, .int fr), (2, .int (nI cn))] := lv_sub hl [0, 1, 2, 3, 4] rfl
    exact ih_L0 (k + 1) ((jv_lshl x (8 : Int32)) ||| ((sp_at len f (fr + (nI k))).toInt64)) ls ⟨hi_hk, hi_hx9, hl9⟩ (by show cn - (k + 1) < cn - k; omega)
set_option maxHeartbeats 4000000 in
set_option maxRecDepth 100000 in
theorem c_Bytes_sumOfFirst (l : Launch) (dC : Nat → ClassId) (dI : Nat → Nat → Nat) (cA : Nat → ClassId) (b : Nat) (ca : Nat) (n : Nat) (len : Nat) (f : Nat → Int32) (cn : Nat) (hln : len ≤ n) (hn : n < 2 ^ 30) (hc : cn < 2 ^ 31) : Met l yX0_sumOfFirst (kw_X0_sumOfFirst) ({ frames := 2, cells := 0, slots := 0, locals := 42 }) (va_Pc [.ref b, .int (nI cn)] (fun U => kRO dC dI cA [(b, .inr (0, [.ref ca, .int (nI len)])), (ca, .inl (cA 0, n, .inl f))] U)) (vp_Si (fun r => r = sp_crc len f cn)) 0 0 (fun _ => False) := by
  refine Met.ofW (cc := cX0_sumOfFirst) (maxL := 5) (ret := (some .int)) (by decide) rfl ?_
  intro p e s m args below meth c s₁ B hml hv
  obtain ⟨rfl, hP, hK, hN⟩ := hv
  have hx := B.exec
  have hb := B.bytes
  have hr := B.returns
  have hts0 := atoms_spec (ws := (kw_X0_sumOfFirst)) B.pre
  have hts : ∀ w ∈ TB, w.before _ s = true := fun w h => hts0 w (List.mem_cons_of_mem _ h)
  have hown : s.vm.findClass RX0 = some m.cls := findClass_of_methodNamed B.named
  have hlocks := B.notSynchronized
  have hk_0 := hts (.constant RX0 37 65535) tb_21
  have hl := lv_entry ([.ref b, .int (nI cn)]) (n := 5) (Nat.le_of_ble_eq_true rfl)
  rw [lg_entry_eq]
  generalize (lg_sl ([.ref b, .int (nI cn)]) ++ List.replicate (5 - (lg_sl ([.ref b, .int (nI cn)])).length) Slot.unset).toArray = ls at hl ⊢
  have hl : lv_has ls 5 [(0, .ref b), (1, .int (nI cn))] := hl
  refine lv_ldc (v := 65535) hx hb hown hk_0 dX0_sumOfFirst_0 ?_
  refine lv_istore_n (lv' := [(2, .int 65535), (0, .ref b), (1, .int (nI cn))]) hx hb dX0_sumOfFirst_2 rfl hl (by decide) rfl (fun ls hl => ?_)
  refine lv_iconst (v := 0) hx hb dX0_sumOfFirst_3 (by decide) ?_
  refine lv_istore_n (lv' := [(3, .int 0), (2, .int 65535), (0, .ref b), (1, .int (nI cn))]) hx hb dX0_sumOfFirst_4 rfl hl (by decide) rfl (fun ls hl => ?_)
  have hi_hk : 0 ≤ cn := (by omega)
  have hi_hx9 : 65535 = sp_crc len f 0 := rfl
  have hl9 : lv_has ls 5 [(3, .int (nI 0)), (2, .int 65535), (0, .ref b), (1, .int (nI cn))] := lv_sub hl [0, 1, 2, 3] rfl
  refine r_loop2 (I := fun (k : Nat) (x : Int32) (ls : Array Slot) => (k ≤ cn) ∧ (x = sp_crc len f k) ∧ lv_has ls 5 [(3, .int (nI k)), (2, .int x), (0, .ref b), (1, .int (nI cn))]) (μ := fun k x => cn - k) ?_ 0 65535 ⟨hi_hk, hi_hx9, hl9⟩
  intro k x ls hI9 ih_L0
  obtain ⟨hk, hx9, hl⟩ := hI9
  refine lv_iload_n hx hb dX0_sumOfFirst_5 rfl (lv_at hl 0 rfl) ?_
  refine lv_iload_n hx hb dX0_sumOfFirst_6 rfl (lv_at hl 3 rfl) ?_
  refine lv_icmp_ge (tgt := 62) hx hb dX0_sumOfFirst_7 (by decide) (fun c_1 => ?_) (fun c_1 => ?_)
  · have c_1 : (nI cn) ≤ (nI k) := c_1
    have hk9 : cn ≤ k := (ku_le (a := cn) (b := k) (by omega) (by omega)).mp c_1
    refine lv_iload_n hx hb dX0_sumOfFirst_62 rfl (lv_at hl 1 rfl) ?_
    exact W.iret (v := x) hx hb hr (fun t9 ht9 hW9 => ⟨x, rfl, (by have e : k = cn := (by omega); rw [hx9, e]), ht9⟩) (fun _ h => absurd h List.not_mem_nil) dX0_sumOfFirst_63
  · have c_1 : ¬ ((nI cn) ≤ (nI k)) := c_1
    have hk9 : k < cn := (ku_nle (a := cn) (b := k) (by omega) (by omega)).mp c_1
    refine lv_iload_n hx hb dX0_sumOfFirst_10 rfl (lv_at hl 1 rfl) ?_
    refine lv_aload_n hx hb dX0_sumOfFirst_11 rfl (lv_at hl 2 rfl) ?_
    refine lv_iload_n hx hb dX0_sumOfFirst_12 rfl (lv_at hl 0 rfl) ?_
    have hPc := hP.sub (ws' := [(b, .inr (0, [.ref ca, .int (nI len)])), (ca, .inl (cA 0, n, .inl f))]) [0, 1] rfl
    refine kq_csi (va_runV (As := [.int (nI k)]) (rest := [.int x]) ⟨hx, hb, hml, hown, hts⟩ (c_Bytes_at l dC dI cA b ca n len f (nI k) (by first | assumption | omega) (by first | assumption | omega)) (cwV 1 hts (kg_V tb_18 tb_19 tb_20 tb_11 tb_17) rfl rfl rfl (by decide +kernel) ⟨Nat.le_of_ble_eq_true rfl, Nat.le_of_ble_eq_true rfl⟩) (kpv_ro hK hN hPc (ci := 0) (q0 := 0) rfl rfl rfl) rfl rfl hl.1 rfl (lv_room (Nat.le_of_ble_eq_true rfl)) dX0_sumOfFirst_13 ⟨Nat.le_of_ble_eq_true rfl, Nat.le_of_ble_eq_true rfl⟩) (fun r_2 hr_2 => ?_)
    subst hr_2
    refine lv_bipush (v := 8) hx hb dX0_sumOfFirst_16 (by decide) ?_
    refine lv_ishl hx hb dX0_sumOfFirst_18 ?_
    refine lv_ixor hx hb dX0_sumOfFirst_19 ?_
    refine lv_istore_n (lv' := [(2, .int (x ^^^ ((sp_at len f (nI k)) <<< ((8 : Int32) &&& 31)))), (3, .int (nI k)), (0, .ref b), (1, .int (nI cn))]) hx hb dX0_sumOfFirst_20 rfl hl (by decide) rfl (fun ls hl => ?_)
    refine lv_iconst (v := 0) hx hb dX0_sumOfFirst_21 (by decide) ?_
    refine lv_istore (lv' := [(4, .int 0), (2, .int (x ^^^ ((sp_at len f (nI k)) <<< ((8 : Int32) &&& 31)))), (3, .int (nI k)), (0, .ref b), (1, .int (nI cn))]) hx hb dX0_sumOfFirst_22 hl (by decide) rfl (fun ls hl => ?_)
    have hi_hj : 0 ≤ 8 := (by omega)
    have hi_hy9 : (x ^^^ ((sp_at len f (nI k)) <<< ((8 : Int32) &&& 31))) = sp_crcb (x ^^^ ((sp_at len f (nI k)) <<< ((8 : Int32) &&& 31))) 0 := rfl
    have hl9 : lv_has ls 5 [(4, .int (nI 0)), (2, .int (x ^^^ ((sp_at len f (nI k)) <<< ((8 : Int32) &&& 31)))), (3, .int (nI k)), (0, .ref b), (1, .int (nI cn))] := lv_sub hl [0, 1, 2, 3, 4] rfl
    refine r_loop2 (I := fun (j : Nat) (y : Int32) (ls : Array Slot) => (j ≤ 8) ∧ (y = sp_crcb (x ^^^ ((sp_at len f (nI k)) <<< ((8 : Int32) &&& 31))) j) ∧ lv_has ls 5 [(4, .int (nI j)), (2, .int y), (3, .int (nI k)), (0, .ref b), (1, .int (nI cn))]) (μ := fun j y => 8 - j) ?_ 0 (x ^^^ ((sp_at len f (nI k)) <<< ((8 : Int32) &&& 31))) ⟨hi_hj, hi_hy9, hl9⟩
    intro j y ls hI9 ih_L1
    obtain ⟨hj, hy9, hl⟩ := hI9
    refine lv_iload hx hb dX0_sumOfFirst_24 (lv_at hl 0 rfl) ?_
    refine lv_bipush (v := 8) hx hb dX0_sumOfFirst_26 (by decide) ?_
    refine lv_icmp_ge (tgt := 56) hx hb dX0_sumOfFirst_28 (by decide) (fun c_3 => ?_) (fun c_3 => ?_)
    · have c_3 : 8 ≤ (nI j) := c_3
      have hk9 : 8 ≤ j := (ku_le (a := 8) (b := j) (by omega) (by omega)).mp c_3
      refine lv_iinc (v := nI (k + 1)) (lv' := [(3, .int (nI (k + 1))), (4, .int (nI j)), (2, .int y), (0, .ref b), (1, .int (nI cn))]) hx hb dX0_sumOfFirst_56 hl (k := 2) rfl (nI_succ _).symm (by decide) rfl (fun ls hl => ?_)
      refine lv_goto (tgt := 5) hx hb dX0_sumOfFirst_59 (by decide) ?_
      have hi_hk : (k + 1) ≤ cn := (by omega)
      have hi_hx9 : y = sp_crc len f (k + 1) := (by have e : j = 8 := (by omega); rw [hy9, e, hx9]; rfl)
      have hl9 : lv_has ls 5 [(3, .int (nI (k + 1))), (2, .int y), (0, .ref b), (1, .int (nI cn))] := lv_sub hl [0, 2, 3, 4] rfl
      exact ih_L0 (k + 1) y ls ⟨hi_hk, hi_hx9, hl9⟩ (by show cn - (k + 1) < cn - k; omega)
    · have c_3 : ¬ (8 ≤ (nI j)) := c_3
      have hk9 : j < 8 := (ku_nle (a := 8) (b := j) (by omega) (by omega)).mp c_3
      refine lv_iload_n hx hb dX0_sumOfFirst_31 rfl (lv_at hl 1 rfl) ?_
      refine lv_iconst (v := 1) hx hb dX0_sumOfFirst_32 (by decide) ?_
      refine lv_ishl hx hb dX0_sumOfFirst_33 ?_
      refine lv_istore_n (lv' := [(2, .int (y <<< ((1 : Int32) &&& 31))), (4, .int (nI j)), (3, .int (nI k)), (0, .ref b), (1, .int (nI cn))]) hx hb dX0_sumOfFirst_34 rfl hl (by decide) rfl (fun ls hl => ?_)
      refine lv_iload_n hx hb dX0_sumOfFirst_35 rfl (lv_at hl 0 rfl) ?_
      refine lv_ldc (v := 65535) hx hb hown hk_0 dX0_sumOfFirst_36 ?_
      refine lv_icmp_le (tgt := 50) hx hb dX0_sumOfFirst_38 (by decide) (fun c_4 => ?_) (fun c_4 => ?_)
      · have c_4 : (y <<< ((1 : Int32) &&& 31)) ≤ 65535 := c_4
        refine lv_iinc (v := nI (j + 1)) (lv' := [(4, .int (nI (j + 1))), (2, .int (y <<< ((1 : Int32) &&& 31))), (3, .int (nI k)), (0, .ref b), (1, .int (nI cn))]) hx hb dX0_sumOfFirst_50 hl (k := 1) rfl (nI_succ _).symm (by decide) rfl (fun ls hl => ?_)
        refine lv_goto (tgt := 24) hx hb dX0_sumOfFirst_53 (by decide) ?_
        have hi_hj : (j + 1) ≤ 8 := (by omega)
        have hi_hy9 : (y <<< ((1 : Int32) &&& 31)) = sp_crcb (x ^^^ ((sp_at len f (nI k)) <<< ((8 : Int32) &&& 31))) (j + 1) := (by subst hy9; exact (if_pos c_4).symm)
        have hl9 : lv_has ls 5 [(4, .int (nI (j + 1))), (2, .int (y <<< ((1 : Int32) &&& 31))), (3, .int (nI k)), (0, .ref b), (1, .int (nI cn))] := lv_sub hl [0, 1, 2, 3, 4] rfl
        exact ih_L1 (j + 1) (y <<< ((1 : Int32) &&& 31)) ls ⟨hi_hj, hi_hy9, hl9⟩ (by show 8 - (j + 1) < 8 - j; omega)
      · have c_4 : ¬ ((y <<< ((1 : Int32) &&& 31)) ≤ 65535) := c_4
        refine lv_iload_n hx hb dX0_sumOfFirst_41 rfl (lv_at hl 0 rfl) ?_
        refine lv_sipush (v := 4129) hx hb dX0_sumOfFirst_42 (by decide) ?_
        refine lv_ixor hx hb dX0_sumOfFirst_45 ?_
        refine lv_ldc (v := 65535) hx hb hown hk_0 dX0_sumOfFirst_46 ?_
        refine lv_iand hx hb dX0_sumOfFirst_48 ?_
        refine lv_istore_n (lv' := [(2, .int (((y <<< ((1 : Int32) &&& 31)) ^^^ 4129) &&& 65535)), (4, .int (nI j)), (3, .int (nI k)), (0, .ref b), (1, .int (nI cn))]) hx hb dX0_sumOfFirst_49 rfl hl (by decide) rfl (fun ls hl => ?_)
        refine lv_iinc (v := nI (j + 1)) (lv' := [(4, .int (nI (j + 1))), (2, .int (((y <<< ((1 : Int32) &&& 31)) ^^^ 4129) &&& 65535)), (3, .int (nI k)), (0, .ref b), (1, .int (nI cn))]) hx hb dX0_sumOfFirst_50 hl (k := 1) rfl (nI_succ _).symm (by decide) rfl (fun ls hl => ?_)
        refine lv_goto (tgt := 24) hx hb dX0_sumOfFirst_53 (by decide) ?_
        have hi_hj : (j + 1) ≤ 8 := (by omega)
        have hi_hy9 : (((y <<< ((1 : Int32) &&& 31)) ^^^ 4129) &&& 65535) = sp_crcb (x ^^^ ((sp_at len f (nI k)) <<< ((8 : Int32) &&& 31))) (j + 1) := (by subst hy9; exact (if_neg c_4).symm)
        have hl9 : lv_has ls 5 [(4, .int (nI (j + 1))), (2, .int (((y <<< ((1 : Int32) &&& 31)) ^^^ 4129) &&& 65535)), (3, .int (nI k)), (0, .ref b), (1, .int (nI cn))] := lv_sub hl [0, 1, 2, 3, 4] rfl
        exact ih_L1 (j + 1) (((y <<< ((1 : Int32) &&& 31)) ^^^ 4129) &&& 65535) ls ⟨hi_hj, hi_hy9, hl9⟩ (by show 8 - (j + 1) < 8 - j; omega)
set_option maxHeartbeats 4000000 in
set_option maxRecDepth 100000 in
theorem c_Bytes_endsWithItsSum (l : Launch) (dC : Nat → ClassId) (dI : Nat → Nat → Nat) (cA : Nat → ClassId) (b : Nat) (ca : Nat) (n : Nat) (len : Nat) (f : Nat → Int32) (hln : len ≤ n) (hn : n < 2 ^ 30) : Met l yX0_endsWithItsSum (kw_X0_endsWithItsSum) ({ frames := 3, cells := 0, slots := 0, locals := 67 }) (va_Pc [.ref b] (fun U => kRO dC dI cA [(b, .inr (0, [.ref ca, .int (nI len)])), (ca, .inl (cA 0, n, .inl f))] U)) (vp_Si (fun r => r = sp_ends len f)) 0 0 (fun _ => False) := by
  refine Met.ofW (cc := cX0_endsWithItsSum) (maxL := 2) (ret := (some .boolean)) (by decide) rfl ?_
  intro p e s m args below meth c s₁ B hml hv
  obtain ⟨rfl, hP, hK, hN⟩ := hv
  have hx := B.exec
  have hb := B.bytes
  have hr := B.returns
  have hts0 := atoms_spec (ws := (kw_X0_endsWithItsSum)) B.pre
  have hts : ∀ w ∈ TB, w.before _ s = true := fun w h => hts0 w (List.mem_cons_of_mem _ h)
  have hown : s.vm.findClass RX0 = some m.cls := findClass_of_methodNamed B.named
  have hlocks := B.notSynchronized
  have hk_0 := hts (.fieldLink RX0 21 "FountainRows$Bytes" "length" "I") tb_6
  have hl := lv_entry ([.ref b]) (n := 2) (Nat.le_of_ble_eq_true rfl)
  rw [lg_entry_eq]
  generalize (lg_sl ([.ref b]) ++ List.replicate (2 - (lg_sl ([.ref b])).length) Slot.unset).toArray = ls at hl ⊢
  have hl : lv_has ls 2 [(0, .ref b)] := hl
  refine lv_aload_n hx hb dX0_endsWithItsSum_0 rfl (lv_at hl 0 rfl) ?_
  refine va_get (D := (dC, dI)) (ci := 0) (v := .int (nI len)) (C := RX0) (T := TX0) (N := 2) hx hb hts inX0 hown hK hP 0 rfl rfl 1 (by decide) hk_0 (fun _ h9 => h9) rfl dX0_endsWithItsSum_1 ?_
  refine lv_iconst (v := 2) hx hb dX0_endsWithItsSum_4 (by decide) ?_
  refine lv_isub hx hb dX0_endsWithItsSum_5 ?_
  refine lv_istore_n (lv' := [(1, .int ((nI len) - 2)), (0, .ref b)]) hx hb dX0_endsWithItsSum_6 rfl hl (by decide) rfl (fun ls hl => ?_)
  refine lv_iload_n hx hb dX0_endsWithItsSum_7 rfl (lv_at hl 0 rfl) ?_
  refine lv_if_lt (tgt := 31) hx hb dX0_endsWithItsSum_8 (by decide) (fun c_1 => ?_) (fun c_1 => ?_)
  · have c_1 : ((nI len) - 2) < 0 := c_1
    have h2 : len < 2 := (ku_neg (a := len) (b := 2) (by omega) (by omega)).mp c_1
    refine lv_iconst (v := 0) hx hb dX0_endsWithItsSum_31 (by decide) ?_
    exact W.zret (v := 0) hx hb hr (by decide) (fun t9 ht9 hW9 => ⟨0, rfl, (by unfold sp_ends; first | rw [if_pos h2] | (rw [if_neg h2]; first | rw [if_pos (by assumption)] | rw [if_neg (by assumption)])), ht9⟩) (fun _ h => absurd h List.not_mem_nil) dX0_endsWithItsSum_32
  · have c_1 : ¬ (((nI len) - 2) < 0) := c_1
    have h2 : ¬ len < 2 := mt (ku_neg (a := len) (b := 2) (by omega) (by omega)).mpr c_1
    have el_2 : nI len - 2 = nI (len - 2) := (pk_sub (a := len) (b := 2) (by omega))
    rw [el_2] at hl
    refine lv_aload_n hx hb dX0_endsWithItsSum_11 rfl (lv_at hl 1 rfl) ?_
    refine lv_iload_n hx hb dX0_endsWithItsSum_12 rfl (lv_at hl 0 rfl) ?_
    refine lv_iconst (v := 2) hx hb dX0_endsWithItsSum_13 (by decide) ?_
    have hPc := hP.sub (ws' := [(b, .inr (0, [.ref ca, .int (nI len)])), (ca, .inl (cA 0, n, .inl f))]) [0, 1] rfl
    refine kq_csl (va_runV (As := [.int (nI (len - 2)), .int (nI 2)]) (rest := []) ⟨hx, hb, hml, hown, hts⟩ (c_Bytes_numberAt l dC dI cA b ca n len f (nI (len - 2)) 2 (by first | assumption | omega) (by first | assumption | omega) (by first | assumption | omega)) (cwV 2 hts (kg_V tb_23 tb_24 tb_25 tb_11 tb_22) rfl rfl rfl (by decide +kernel) ⟨Nat.le_of_ble_eq_true rfl, Nat.le_of_ble_eq_true rfl⟩) (kpv_ro hK hN hPc (ci := 0) (q0 := 0) rfl rfl rfl) rfl rfl hl.1 rfl (lv_room (Nat.le_of_ble_eq_true rfl)) dX0_endsWithItsSum_14 ⟨Nat.le_of_ble_eq_true rfl, Nat.le_of_ble_eq_true rfl⟩) (fun r_3 hr_3 => ?_)
    subst hr_3
    refine lv_aload_n hx hb dX0_endsWithItsSum_17 rfl (lv_at hl 1 rfl) ?_
    refine lv_iload_n hx hb dX0_endsWithItsSum_18 rfl (lv_at hl 0 rfl) ?_
    have hPc := hP.sub (ws' := [(b, .inr (0, [.ref ca, .int (nI len)])), (ca, .inl (cA 0, n, .inl f))]) [0, 1] rfl
    refine kq_csi (va_runV (As := [.int (nI (len - 2))]) (rest := [.long (sp_num len f (nI (len - 2)) 2)]) ⟨hx, hb, hml, hown, hts⟩ (c_Bytes_sumOfFirst l dC dI cA b ca n len f (len - 2) (by first | assumption | omega) (by first | assumption | omega) (by first | assumption | omega)) (cwV 1 hts (kg_V tb_27 tb_28 tb_29 tb_11 tb_26) rfl rfl rfl (by decide +kernel) ⟨Nat.le_of_ble_eq_true rfl, Nat.le_of_ble_eq_true rfl⟩) (kpv_ro hK hN hPc (ci := 0) (q0 := 0) rfl rfl rfl) rfl rfl hl.1 rfl (lv_room (Nat.le_of_ble_eq_true rfl)) dX0_endsWithItsSum_19 ⟨Nat.le_of_ble_eq_true rfl, Nat.le_of_ble_eq_true rfl⟩) (fun r_4 hr_4 => ?_)
    subst hr_4
    refine lv_i2l (v := (sp_crc len f (len - 2)).toInt64) hx hb dX0_endsWithItsSum_22 rfl ?_
    refine W.lcmp hx hb dX0_endsWithItsSum_23 ?_
    refine lv_if_ne (tgt := 31) hx hb dX0_endsWithItsSum_24 (by decide) (fun c_5 => ?_) (fun c_5 => ?_)
    · have c_5 : ¬ ((lg_cmp (sp_num len f (nI (len - 2)) 2) ((sp_crc len f (len - 2)).toInt64)) = 0) := c_5
      refine lv_iconst (v := 0) hx hb dX0_endsWithItsSum_31 (by decide) ?_
      exact W.zret (v := 0) hx hb hr (by decide) (fun t9 ht9 hW9 => ⟨0, rfl, (by unfold sp_ends; first | rw [if_pos h2] | (rw [if_neg h2]; first | rw [if_pos (by assumption)] | rw [if_neg (by assumption)])), ht9⟩) (fun _ h => absurd h List.not_mem_nil) dX0_endsWithItsSum_32
    · have c_5 : (lg_cmp (sp_num len f (nI (len - 2)) 2) ((sp_crc len f (len - 2)).toInt64)) = 0 := c_5
      refine lv_iconst (v := 1) hx hb dX0_endsWithItsSum_27 (by decide) ?_
      refine lv_goto (tgt := 32) hx hb dX0_endsWithItsSum_28 (by decide) ?_
      exact W.zret (v := 1) hx hb hr (by decide) (fun t9 ht9 hW9 => ⟨1, rfl, (by unfold sp_ends; first | rw [if_pos h2] | (rw [if_neg h2]; first | rw [if_pos (by assumption)] | rw [if_neg (by assumption)])), ht9⟩) (fun _ h => absurd h List.not_mem_nil) dX0_endsWithItsSum_32
set_option maxHeartbeats 4000000 in
set_option maxRecDepth 100000 in
theorem c_Bytes_init12 (l : Launch) (dC : Nat → ClassId) (dI : Nat → Nat → Nat) (cA : Nat → ClassId) (sz : Nat) (b : Nat) (len : Int32)  : Met l yX0_init (kw_X0_init) ({ frames := 1, cells := 1, slots := 12, locals := 14 }) (va_Pc [.ref b, .int 12] (fun U => kRW dC dI cA [(b, .inr (0, [.null, .int len]))] sz U)) (va_Qv (fun (u : Nat) => True) (fun (u : Nat) t => kB dC dI (va_A [(b, .inr (0, [.null, .int len]))] sz) [(b, .inr (0, [.ref u, .int (nI 0)])), (u, .inl (cA 0, 12, .inl (fun _ => 0)))] t) (va_A [(b, .inr (0, [.null, .int len]))] sz)) 1 12 (va_A [(b, .inr (0, [.null, .int len]))] sz) := by
  refine Met.ofW (cc := cX0_init) (maxL := 2) (ret := none) (by decide) rfl ?_
  intro p e s m args below meth c s₁ B hml hv
  obtain ⟨rfl, hsz, hP, hK, hN, hD0⟩ := hv
  have hx := B.exec
  have hb := B.bytes
  have hr := B.returns
  have hts0 := atoms_spec (ws := (kw_X0_init)) B.pre
  have hts : ∀ w ∈ TB, w.before _ s = true := fun w h => hts0 w (List.mem_cons_of_mem _ h)
  have hown : s.vm.findClass RX0 = some m.cls := findClass_of_methodNamed B.named
  have hlocks := B.notSynchronized
  have hin : meth.name = "<init>" := (name_of_methodNamed B.named B.method).1
  subst hsz
  have hD := hD0.self (sz := s.heap.size)
  generalize hAe : va_A [(b, .inr (0, [.null, .int len]))] s.heap.size = A at hD ⊢
  have hA : ∀ q : Nat, s.heap.size ≤ q → A q := fun q h => by rw [← hAe]; exact Or.inr h
  have hS : va_S A s.heap s.heap [] := va_S.rf
  have hk_0 := hts (.methodLink RX0 3 objectInit) tb_30
  have hk_1 := hts (.instanceMethod objectInit) tb_31
  have hk_2 := hts (.code objectInit ⟨#[0xb1]⟩ 1 none) tb_32
  have hk_3 := hts (.methodLink RX0 9 Lib.Math.max.name) tb_33
  have hk_4 := hts (.static Lib.Math.max.name) tb_34
  have hk_5 := hts (.initialized "java/lang/Math") tb_35
  have hk_6 := hts (.code Lib.Math.max.name Lib.Math.max.code 2 (some .int)) tb_36
  have hk_7 := hts (.arrayClass .int) tb_37
  have hk_8 := hts (.fieldLink RX0 15 "FountainRows$Bytes" "cells" "[I") tb_12
  have hk_9 := hts (.fieldLink RX0 21 "FountainRows$Bytes" "length" "I") tb_6
  have hl := lv_entry ([.ref b, .int 12]) (n := 2) (Nat.le_of_ble_eq_true rfl)
  rw [lg_entry_eq]
  generalize (lg_sl ([.ref b, .int 12]) ++ List.replicate (2 - (lg_sl ([.ref b, .int 12])).length) Slot.unset).toArray = ls at hl ⊢
  have hl : lv_has ls 2 [(0, .ref b), (1, .int 12)] := hl
  refine lv_aload_n hx hb dX0_init_0 rfl (lv_at hl 0 rfl) ?_
  refine W.objInit hx hb hown hk_0 hk_1 hk_2 rfl (by rw [hml]; exact hl.1) rfl dX0_init_1 (Nat.le_of_ble_eq_true rfl) (Nat.le_of_ble_eq_true rfl) ?_
  refine W.eq (g2 := F0 m 4 ls []) rfl ?_
  refine lv_aload_n hx hb dX0_init_4 rfl (lv_at hl 0 rfl) ?_
  refine lv_iconst (v := 0) hx hb dX0_init_5 (by decide) ?_
  refine lv_iload_n hx hb dX0_init_6 rfl (lv_at hl 1 rfl) ?_
  refine va_mmax hx hb (by rw [hml]; exact hl.1.symm) hown hk_3 hk_4 hk_5 hk_6 (Nat.le_of_ble_eq_true rfl) (Nat.le_of_ble_eq_true rfl) (Nat.le_of_ble_eq_true rfl) (Nat.le_of_ble_eq_true rfl) dX0_init_7 ?_
  refine kt_i (y := 12) (by decide) ?_
  refine kn_newi (N' := 12) hx hb hk_7 hK hP hD hS hA (by decide) (by decide) (by decide) (Nat.le_of_ble_eq_true rfl) (Nat.le_of_ble_eq_true rfl) dX0_init_10 (fun q_1 H hP hD hS => ?_)
  have hP : va_P (dC, dI) vwCl [(b, .inr (0, [.null, .int len])), (q_1, .inl (cA 0, 12, .inl (fun _ => 0)))] H := hP
  have hD : va_D A [(b, .inr (0, [.null, .int len])), (q_1, .inl (cA 0, 12, .inl (fun _ => 0)))] := hD
  refine va_putF (D := (dC, dI)) (ci := 0) (v := .ref q_1) (ty := .array .int) (C := RX0) (T := TX0) (N := 2) hx hb hts inX0 tyX0 tyX0_ok nmX0 hown hK hP hD hS 0 rfl rfl 0 (by decide) hk_8 (fun _ h9 => h9) rfl hin rfl (by decide +kernel) rfl rfl (Nat.le_of_ble_eq_true rfl) dX0_init_12 (fun H locs hP hD hS => ?_)
  have hP : va_P (dC, dI) vwCl [(b, .inr (0, [.ref q_1, .int len])), (q_1, .inl (cA 0, 12, .inl (fun _ => 0)))] H := hP
  have hD : va_D A [(b, .inr (0, [.ref q_1, .int len])), (q_1, .inl (cA 0, 12, .inl (fun _ => 0)))] := hD
  refine lv_aload_n hx hb dX0_init_15 rfl (lv_at hl 0 rfl) ?_
  refine lv_iconst (v := 0) hx hb dX0_init_16 (by decide) ?_
  refine va_put (D := (dC, dI)) (ci := 0) (v := .int 0) (ty := .int) (C := RX0) (T := TX0) (N := 2) hx hb hts inX0 tyX0 tyX0_ok nmX0 hown hK hP hD hS 0 rfl rfl 1 (by decide) hk_9 (fun _ h9 => h9) rfl (by decide +kernel) rfl rfl (Nat.le_of_ble_eq_true rfl) dX0_init_17 (fun H locs hP hD hS => ?_)
  have hP : va_P (dC, dI) vwCl [(b, .inr (0, [.ref q_1, .int 0])), (q_1, .inl (cA 0, 12, .inl (fun _ => 0)))] H := hP
  have hD : va_D A [(b, .inr (0, [.ref q_1, .int 0])), (q_1, .inl (cA 0, 12, .inl (fun _ => 0)))] := hD
  have hP9 := hP.sub (ws' := [(b, .inr (0, [.ref q_1, .int 0])), (q_1, .inl (cA 0, 12, .inl (fun _ => 0)))]) [0, 1] rfl
  have hD9 := hD.sub (ws' := [(b, .inr (0, [.ref q_1, .int 0])), (q_1, .inl (cA 0, 12, .inl (fun _ => 0)))]) [0, 1] (by decide) rfl
  have e9_0 : nI 0 = 0 := rfl
  have e9 : ([(b, .inr (0, [.ref q_1, .int (nI 0)])), (q_1, .inl (cA 0, 12, .inl (fun _ => 0)))] : va_W) = [(b, .inr (0, [.ref q_1, .int 0])), (q_1, .inl (cA 0, 12, .inl (fun _ => 0)))] := by rw [e9_0]
  exact W.vret hx hb hr (fun t9 ht9 hW9 => ⟨⟨q_1, rfl, trivial, by rw [ht9, e9]; exact hP9, by rw [e9]; exact hD9⟩, hS.F ht9⟩) hS.2.2 dX0_init_20
set_option maxHeartbeats 4000000 in
set_option maxRecDepth 100000 in
theorem c_Bytes_init651 (l : Launch) (dC : Nat → ClassId) (dI : Nat → Nat → Nat) (cA : Nat → ClassId) (sz : Nat) (b : Nat) (len : Int32)  : Met l yX0_init (kw_X0_init) ({ frames := 1, cells := 1, slots := 651, locals := 14 }) (va_Pc [.ref b, .int 651] (fun U => kRW dC dI cA [(b, .inr (0, [.null, .int len]))] sz U)) (va_Qv (fun (u : Nat) => True) (fun (u : Nat) t => kB dC dI (va_A [(b, .inr (0, [.null, .int len]))] sz) [(b, .inr (0, [.ref u, .int (nI 0)])), (u, .inl (cA 0, 651, .inl (fun _ => 0)))] t) (va_A [(b, .inr (0, [.null, .int len]))] sz)) 1 651 (va_A [(b, .inr (0, [.null, .int len]))] sz) := by
  refine Met.ofW (cc := cX0_init) (maxL := 2) (ret := none) (by decide) rfl ?_
  intro p e s m args below meth c s₁ B hml hv
  obtain ⟨rfl, hsz, hP, hK, hN, hD0⟩ := hv
  have hx := B.exec
  have hb := B.bytes
  have hr := B.returns
  have hts0 := atoms_spec (ws := (kw_X0_init)) B.pre
  have hts : ∀ w ∈ TB, w.before _ s = true := fun w h => hts0 w (List.mem_cons_of_mem _ h)
  have hown : s.vm.findClass RX0 = some m.cls := findClass_of_methodNamed B.named
  have hlocks := B.notSynchronized
  have hin : meth.name = "<init>" := (name_of_methodNamed B.named B.method).1
  subst hsz
  have hD := hD0.self (sz := s.heap.size)
  generalize hAe : va_A [(b, .inr (0, [.null, .int len]))] s.heap.size = A at hD ⊢
  have hA : ∀ q : Nat, s.heap.size ≤ q → A q := fun q h => by rw [← hAe]; exact Or.inr h
  have hS : va_S A s.heap s.heap [] := va_S.rf
  have hk_0 := hts (.methodLink RX0 3 objectInit) tb_30
  have hk_1 := hts (.instanceMethod objectInit) tb_31
  have hk_2 := hts (.code objectInit ⟨#[0xb1]⟩ 1 none) tb_32
  have hk_3 := hts (.methodLink RX0 9 Lib.Math.max.name) tb_33
  have hk_4 := hts (.static Lib.Math.max.name) tb_34
  have hk_5 := hts (.initialized "java/lang/Math") tb_35
  have hk_6 := hts (.code Lib.Math.max.name Lib.Math.max.code 2 (some .int)) tb_36
  have hk_7 := hts (.arrayClass .int) tb_37
  have hk_8 := hts (.fieldLink RX0 15 "FountainRows$Bytes" "cells" "[I") tb_12
  have hk_9 := hts (.fieldLink RX0 21 "FountainRows$Bytes" "length" "I") tb_6
  have hl := lv_entry ([.ref b, .int 651]) (n := 2) (Nat.le_of_ble_eq_true rfl)
  rw [lg_entry_eq]
  generalize (lg_sl ([.ref b, .int 651]) ++ List.replicate (2 - (lg_sl ([.ref b, .int 651])).length) Slot.unset).toArray = ls at hl ⊢
  have hl : lv_has ls 2 [(0, .ref b), (1, .int 651)] := hl
  refine lv_aload_n hx hb dX0_init_0 rfl (lv_at hl 0 rfl) ?_
  refine W.objInit hx hb hown hk_0 hk_1 hk_2 rfl (by rw [hml]; exact hl.1) rfl dX0_init_1 (Nat.le_of_ble_eq_true rfl) (Nat.le_of_ble_eq_true rfl) ?_
  refine W.eq (g2 := F0 m 4 ls []) rfl ?_
  refine lv_aload_n hx hb dX0_init_4 rfl (lv_at hl 0 rfl) ?_
  refine lv_iconst (v := 0) hx hb dX0_init_5 (by decide) ?_
  refine lv_iload_n hx hb dX0_init_6 rfl (lv_at hl 1 rfl) ?_
  refine va_mmax hx hb (by rw [hml]; exact hl.1.symm) hown hk_3 hk_4 hk_5 hk_6 (Nat.le_of_ble_eq_true rfl) (Nat.le_of_ble_eq_true rfl) (Nat.le_of_ble_eq_true rfl) (Nat.le_of_ble_eq_true rfl) dX0_init_7 ?_
  refine kt_i (y := 651) (by decide) ?_
  refine kn_newi (N' := 651) hx hb hk_7 hK hP hD hS hA (by decide) (by decide) (by decide) (Nat.le_of_ble_eq_true rfl) (Nat.le_of_ble_eq_true rfl) dX0_init_10 (fun q_1 H hP hD hS => ?_)
  have hP : va_P (dC, dI) vwCl [(b, .inr (0, [.null, .int len])), (q_1, .inl (cA 0, 651, .inl (fun _ => 0)))] H := hP
  have hD : va_D A [(b, .inr (0, [.null, .int len])), (q_1, .inl (cA 0, 651, .inl (fun _ => 0)))] := hD
  refine va_putF (D := (dC, dI)) (ci := 0) (v := .ref q_1) (ty := .array .int) (C := RX0) (T := TX0) (N := 2) hx hb hts inX0 tyX0 tyX0_ok nmX0 hown hK hP hD hS 0 rfl rfl 0 (by decide) hk_8 (fun _ h9 => h9) rfl hin rfl (by decide +kernel) rfl rfl (Nat.le_of_ble_eq_true rfl) dX0_init_12 (fun H locs hP hD hS => ?_)
  have hP : va_P (dC, dI) vwCl [(b, .inr (0, [.ref q_1, .int len])), (q_1, .inl (cA 0, 651, .inl (fun _ => 0)))] H := hP
  have hD : va_D A [(b, .inr (0, [.ref q_1, .int len])), (q_1, .inl (cA 0, 651, .inl (fun _ => 0)))] := hD
  refine lv_aload_n hx hb dX0_init_15 rfl (lv_at hl 0 rfl) ?_
  refine lv_iconst (v := 0) hx hb dX0_init_16 (by decide) ?_
  refine va_put (D := (dC, dI)) (ci := 0) (v := .int 0) (ty := .int) (C := RX0) (T := TX0) (N := 2) hx hb hts inX0 tyX0 tyX0_ok nmX0 hown hK hP hD hS 0 rfl rfl 1 (by decide) hk_9 (fun _ h9 => h9) rfl (by decide +kernel) rfl rfl (Nat.le_of_ble_eq_true rfl) dX0_init_17 (fun H locs hP hD hS => ?_)
  have hP : va_P (dC, dI) vwCl [(b, .inr (0, [.ref q_1, .int 0])), (q_1, .inl (cA 0, 651, .inl (fun _ => 0)))] H := hP
  have hD : va_D A [(b, .inr (0, [.ref q_1, .int 0])), (q_1, .inl (cA 0, 651, .inl (fun _ => 0)))] := hD
  have hP9 := hP.sub (ws' := [(b, .inr (0, [.ref q_1, .int 0])), (q_1, .inl (cA 0, 651, .inl (fun _ => 0)))]) [0, 1] rfl
  have hD9 := hD.sub (ws' := [(b, .inr (0, [.ref q_1, .int 0])), (q_1, .inl (cA 0, 651, .inl (fun _ => 0)))]) [0, 1] (by decide) rfl
  have e9_0 : nI 0 = 0 := rfl
  have e9 : ([(b, .inr (0, [.ref q_1, .int (nI 0)])), (q_1, .inl (cA 0, 651, .inl (fun _ => 0)))] : va_W) = [(b, .inr (0, [.ref q_1, .int 0])), (q_1, .inl (cA 0, 651, .inl (fun _ => 0)))] := by rw [e9_0]
  exact W.vret hx hb hr (fun t9 ht9 hW9 => ⟨⟨q_1, rfl, trivial, by rw [ht9, e9]; exact hP9, by rw [e9]; exact hD9⟩, hS.F ht9⟩) hS.2.2 dX0_init_20
