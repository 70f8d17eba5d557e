set_option maxHeartbeats 4000000 in
set_option maxRecDepth 100000 in
theorem c_FountainRows_sourceAt (l : Launch) (dC : Nat → ClassId) (dI : Nat → Nat → Nat) (cA : Nat → ClassId) (fo : Nat) (wta : Nat) (soa : Nat) (rea : Nat) (fb : Nat) (ib : Nat) (cnt : Nat) (fs : Int32) (fS : Nat → Option Nat) (x : Int32) (hcnt : cnt ≤ 4) : Met l yX5_sourceAt (kw_X5_sourceAt) ({ frames := 0, cells := 0, slots := 0, locals := 0 }) (va_Pc [.ref fo, .int x] (fun U => kRO dC dI cA [(fo, .inr (5, [.ref wta, .ref soa, .ref rea, .int (nI cnt), .ref fb, .int fs, .ref ib])), (soa, .inl (cA 2, 4, .inr (.inr (.inr (.inr fS)))))] U)) (va_Sq (fun r => r = sp_sat cnt fS x)) 0 0 (fun _ => False) := by
  refine Met.ofW (cc := cX5_sourceAt) (maxL := 2) (ret := (some (.object "FountainRows$Source"))) (by decide) rfl ?_
  intro p e s m args below meth c s₁ B hml hv
  obtain ⟨rfl, hP, hK, hN⟩ := hv
  have hx := B.exec
  have hb := B.bytes
  have hr := B.returns
  have hts0 := atoms_spec (ws := (kw_X5_sourceAt)) B.pre
  have hts : ∀ w ∈ TB, w.before _ s = true := fun w h => hts0 w (List.mem_cons_of_mem _ h)
  have hown : s.vm.findClass RX5 = some m.cls := findClass_of_methodNamed B.named
  have hlocks := B.notSynchronized
  have hk_0 := hts (.fieldLink RX5 34 "FountainRows" "sourceCount" "I") tb_224
  have hk_1 := hts (.fieldLink RX5 24 "FountainRows" "sources" "[LFountainRows$Source;") tb_225
  have hl := lv_entry ([.ref fo, .int x]) (n := 2) (Nat.le_of_ble_eq_true rfl)
  rw [lg_entry_eq]
  generalize (lg_sl ([.ref fo, .int x]) ++ List.replicate (2 - (lg_sl ([.ref fo, .int x])).length) Slot.unset).toArray = ls at hl ⊢
  have hl : lv_has ls 2 [(0, .ref fo), (1, .int x)] := hl
  refine lv_iload_n hx hb dX5_sourceAt_0 rfl (lv_at hl 1 rfl) ?_
  refine lv_if_lt (tgt := 21) hx hb dX5_sourceAt_1 (by decide) (fun c_1 => ?_) (fun c_1 => ?_)
  · have c_1 : x < 0 := c_1
    refine lv_null hx hb dX5_sourceAt_21 ?_
    exact W.aret (v := .null) hx hb hr (Or.inl ⟨_, rfl⟩) (Or.inl rfl) (fun t9 ht9 hW9 => ⟨none, rfl, (by unfold sp_sat; rw [if_pos c_1] <;> rfl), ht9⟩) (fun _ h => absurd h List.not_mem_nil) dX5_sourceAt_22
  · have c_1 : ¬ (x < 0) := c_1
    refine lv_iload_n hx hb dX5_sourceAt_4 rfl (lv_at hl 1 rfl) ?_
    refine lv_aload_n hx hb dX5_sourceAt_5 rfl (lv_at hl 0 rfl) ?_
    refine va_get (D := (dC, dI)) (ci := 5) (v := .int (nI cnt)) (C := RX5) (T := TX5) (N := 7) hx hb hts inX5 hown hK hP 0 rfl rfl 3 (by decide) hk_0 (fun _ h9 => h9) rfl dX5_sourceAt_6 ?_
    refine lv_icmp_ge (tgt := 21) hx hb dX5_sourceAt_9 (by decide) (fun c_2 => ?_) (fun c_2 => ?_)
    · have c_2 : (nI cnt) ≤ x := c_2
      refine lv_null hx hb dX5_sourceAt_21 ?_
      exact W.aret (v := .null) hx hb hr (Or.inl ⟨_, rfl⟩) (Or.inl rfl) (fun t9 ht9 hW9 => ⟨none, rfl, (by unfold sp_sat; rw [if_neg c_1, if_pos c_2] <;> rfl), ht9⟩) (fun _ h => absurd h List.not_mem_nil) dX5_sourceAt_22
    · have c_2 : ¬ ((nI cnt) ≤ x) := c_2
      refine lv_aload_n hx hb dX5_sourceAt_12 rfl (lv_at hl 0 rfl) ?_
      refine va_get (D := (dC, dI)) (ci := 5) (v := .ref soa) (C := RX5) (T := TX5) (N := 7) hx hb hts inX5 hown hK hP 0 rfl rfl 1 (by decide) hk_1 (fun _ h9 => h9) rfl dX5_sourceAt_13 ?_
      refine lv_iload_n hx hb dX5_sourceAt_16 rfl (lv_at hl 1 rfl) ?_
      refine va_aldq (D := (dC, dI)) hx hb hK hP 1 2 rfl rfl (ku_in c_1 c_2 hcnt (by omega)) dX5_sourceAt_17 ?_
      refine lv_goto (tgt := 22) hx hb dX5_sourceAt_18 (by decide) ?_
      exact W.aret (v := (va_rf (fS x.toNatClampNeg))) hx hb hr (Or.inl ⟨_, rfl⟩) (kv_rf _) (fun t9 ht9 hW9 => ⟨fS x.toNatClampNeg, rfl, (by unfold sp_sat; rw [if_neg c_1, if_neg c_2] <;> rfl), ht9⟩) (fun _ h => absurd h List.not_mem_nil) dX5_sourceAt_22
set_option maxHeartbeats 4000000 in
set_option maxRecDepth 100000 in
theorem c_FountainRows_receiverAt (l : Launch) (dC : Nat → ClassId) (dI : Nat → Nat → Nat) (cA : Nat → ClassId) (fo : Nat) (wta : Nat) (soa : Nat) (rea : Nat) (fb : Nat) (ib : Nat) (cnt : Nat) (fs : Int32) (fR : Nat → Option Nat) (x : Int32) (hcnt : cnt ≤ 4) : Met l yX5_receiverAt (kw_X5_receiverAt) ({ frames := 0, cells := 0, slots := 0, locals := 0 }) (va_Pc [.ref fo, .int x] (fun U => kRO dC dI cA [(fo, .inr (5, [.ref wta, .ref soa, .ref rea, .int (nI cnt), .ref fb, .int fs, .ref ib])), (rea, .inl (cA 3, 4, .inr (.inr (.inr (.inr fR)))))] U)) (va_Sq (fun r => r = sp_sat cnt fR x)) 0 0 (fun _ => False) := by
  refine Met.ofW (cc := cX5_receiverAt) (maxL := 2) (ret := (some (.object "FountainRows$Receiver"))) (by decide) rfl ?_
  intro p e s m args below meth c s₁ B hml hv
  obtain ⟨rfl, hP, hK, hN⟩ := hv
  have hx := B.exec
  have hb := B.bytes
  have hr := B.returns
  have hts0 := atoms_spec (ws := (kw_X5_receiverAt)) B.pre
  have hts : ∀ w ∈ TB, w.before _ s = true := fun w h => hts0 w (List.mem_cons_of_mem _ h)
  have hown : s.vm.findClass RX5 = some m.cls := findClass_of_methodNamed B.named
  have hlocks := B.notSynchronized
  have hk_0 := hts (.fieldLink RX5 34 "FountainRows" "sourceCount" "I") tb_224
  have hk_1 := hts (.fieldLink RX5 30 "FountainRows" "receivers" "[LFountainRows$Receiver;") tb_226
  have hl := lv_entry ([.ref fo, .int x]) (n := 2) (Nat.le_of_ble_eq_true rfl)
  rw [lg_entry_eq]
  generalize (lg_sl ([.ref fo, .int x]) ++ List.replicate (2 - (lg_sl ([.ref fo, .int x])).length) Slot.unset).toArray = ls at hl ⊢
  have hl : lv_has ls 2 [(0, .ref fo), (1, .int x)] := hl
  refine lv_iload_n hx hb dX5_receiverAt_0 rfl (lv_at hl 1 rfl) ?_
  refine lv_if_lt (tgt := 21) hx hb dX5_receiverAt_1 (by decide) (fun c_1 => ?_) (fun c_1 => ?_)
  · have c_1 : x < 0 := c_1
    refine lv_null hx hb dX5_receiverAt_21 ?_
    exact W.aret (v := .null) hx hb hr (Or.inl ⟨_, rfl⟩) (Or.inl rfl) (fun t9 ht9 hW9 => ⟨none, rfl, (by unfold sp_sat; rw [if_pos c_1] <;> rfl), ht9⟩) (fun _ h => absurd h List.not_mem_nil) dX5_receiverAt_22
  · have c_1 : ¬ (x < 0) := c_1
    refine lv_iload_n hx hb dX5_receiverAt_4 rfl (lv_at hl 1 rfl) ?_
    refine lv_aload_n hx hb dX5_receiverAt_5 rfl (lv_at hl 0 rfl) ?_
    refine va_get (D := (dC, dI)) (ci := 5) (v := .int (nI cnt)) (C := RX5) (T := TX5) (N := 7) hx hb hts inX5 hown hK hP 0 rfl rfl 3 (by decide) hk_0 (fun _ h9 => h9) rfl dX5_receiverAt_6 ?_
    refine lv_icmp_ge (tgt := 21) hx hb dX5_receiverAt_9 (by decide) (fun c_2 => ?_) (fun c_2 => ?_)
    · have c_2 : (nI cnt) ≤ x := c_2
      refine lv_null hx hb dX5_receiverAt_21 ?_
      exact W.aret (v := .null) hx hb hr (Or.inl ⟨_, rfl⟩) (Or.inl rfl) (fun t9 ht9 hW9 => ⟨none, rfl, (by unfold sp_sat; rw [if_neg c_1, if_pos c_2] <;> rfl), ht9⟩) (fun _ h => absurd h List.not_mem_nil) dX5_receiverAt_22
    · have c_2 : ¬ ((nI cnt) ≤ x) := c_2
      refine lv_aload_n hx hb dX5_receiverAt_12 rfl (lv_at hl 0 rfl) ?_
      refine va_get (D := (dC, dI)) (ci := 5) (v := .ref rea) (C := RX5) (T := TX5) (N := 7) hx hb hts inX5 hown hK hP 0 rfl rfl 2 (by decide) hk_1 (fun _ h9 => h9) rfl dX5_receiverAt_13 ?_
      refine lv_iload_n hx hb dX5_receiverAt_16 rfl (lv_at hl 1 rfl) ?_
      refine va_aldq (D := (dC, dI)) hx hb hK hP 1 3 rfl rfl (ku_in c_1 c_2 hcnt (by omega)) dX5_receiverAt_17 ?_
      refine lv_goto (tgt := 22) hx hb dX5_receiverAt_18 (by decide) ?_
      exact W.aret (v := (va_rf (fR x.toNatClampNeg))) hx hb hr (Or.inl ⟨_, rfl⟩) (kv_rf _) (fun t9 ht9 hW9 => ⟨fR x.toNatClampNeg, rfl, (by unfold sp_sat; rw [if_neg c_1, if_neg c_2] <;> rfl), ht9⟩) (fun _ h => absurd h List.not_mem_nil) dX5_receiverAt_22
set_option maxHeartbeats 4000000 in
set_option maxRecDepth 100000 in
theorem c_FountainRows_degree (l : Launch) (dC : Nat → ClassId) (dI : Nat → Nat → Nat) (cA : Nat → ClassId) (sz : Nat) (fo : Nat) (wta : Nat) (soa : Nat) (rea : Nat) (fb : Nat) (ib : Nat) (cnt : Nat) (fs : Int32) (wt : Nat → Int32) (d : Int32) (v : Int32)  : Met l yX5_degree (kw_X5_degree) ({ frames := 0, cells := 0, slots := 0, locals := 0 }) (va_Pc [.ref fo, .int d, .int v] (fun U => kRW dC dI cA [(fo, .inr (5, [.ref wta, .ref soa, .ref rea, .int (nI cnt), .ref fb, .int fs, .ref ib])), (wta, .inl (cA 0, 12, .inl wt))] sz U)) (va_Qi (fun r (u : Unit) => r = sp_degr wt d v) (fun (u : Unit) t => kB dC dI (va_A [(fo, .inr (5, [.ref wta, .ref soa, .ref rea, .int (nI cnt), .ref fb, .int fs, .ref ib])), (wta, .inl (cA 0, 12, .inl wt))] sz) [(fo, .inr (5, [.ref wta, .ref soa, .ref rea, .int (nI cnt), .ref fb, .int fs, .ref ib])), (wta, .inl (cA 0, 12, .inl (sp_degw wt d v)))] t) (va_A [(fo, .inr (5, [.ref wta, .ref soa, .ref rea, .int (nI cnt), .ref fb, .int fs, .ref ib])), (wta, .inl (cA 0, 12, .inl wt))] sz)) 0 0 (va_A [(fo, .inr (5, [.ref wta, .ref soa, .ref rea, .int (nI cnt), .ref fb, .int fs, .ref ib])), (wta, .inl (cA 0, 12, .inl wt))] sz) := by
  refine Met.ofW (cc := cX5_degree) (maxL := 4) (ret := (some .int)) (by decide) rfl ?_
  intro p e s m args below meth c s₁ B hml hv
  obtain ⟨rfl, hsz, hP, hK, hN, hD0⟩ := hv
  have hx := B.exec
  have hb := B.bytes
  have hr := B.returns
  have hts0 := atoms_spec (ws := (kw_X5_degree)) B.pre
  have hts : ∀ w ∈ TB, w.before _ s = true := fun w h => hts0 w (List.mem_cons_of_mem _ h)
  have hown : s.vm.findClass RX5 = some m.cls := findClass_of_methodNamed B.named
  have hlocks := B.notSynchronized
  subst hsz
  have hD := hD0.self (sz := s.heap.size)
  generalize hAe : va_A [(fo, .inr (5, [.ref wta, .ref soa, .ref rea, .int (nI cnt), .ref fb, .int fs, .ref ib])), (wta, .inl (cA 0, 12, .inl wt))] s.heap.size = A at hD ⊢
  have hA : ∀ q : Nat, s.heap.size ≤ q → A q := fun q h => by rw [← hAe]; exact Or.inr h
  have hS : va_S A s.heap s.heap [] := va_S.rf
  have hk_0 := hts (.fieldLink RX5 9 "FountainRows" "weights" "[I") tb_227
  have hl := lv_entry ([.ref fo, .int d, .int v]) (n := 4) (Nat.le_of_ble_eq_true rfl)
  rw [lg_entry_eq]
  generalize (lg_sl ([.ref fo, .int d, .int v]) ++ List.replicate (4 - (lg_sl ([.ref fo, .int d, .int v])).length) Slot.unset).toArray = ls at hl ⊢
  have hl : lv_has ls 4 [(0, .ref fo), (1, .int d), (2, .int v)] := hl
  refine lv_iload_n hx hb dX5_degree_0 rfl (lv_at hl 1 rfl) ?_
  refine lv_iconst (v := 1) hx hb dX5_degree_1 (by decide) ?_
  refine lv_icmp_lt (tgt := 11) hx hb dX5_degree_2 (by decide) (fun c_1 => ?_) (fun c_1 => ?_)
  · have c_1 : d < 1 := c_1
    refine lv_iconst (v := (-1)) hx hb dX5_degree_11 (by decide) ?_
    have hP9 := hP.sub (ws' := [(fo, .inr (5, [.ref wta, .ref soa, .ref rea, .int (nI cnt), .ref fb, .int fs, .ref ib])), (wta, .inl (cA 0, 12, .inl wt))]) [0, 1] rfl
    have hD9 := hD.sub (ws' := [(fo, .inr (5, [.ref wta, .ref soa, .ref rea, .int (nI cnt), .ref fb, .int fs, .ref ib])), (wta, .inl (cA 0, 12, .inl wt))]) [0, 1] (by decide) rfl
    have e9_0 : sp_degw wt d v = wt := (by unfold sp_degw; rw [if_pos c_1] <;> rfl)
    have e9 : ([(fo, .inr (5, [.ref wta, .ref soa, .ref rea, .int (nI cnt), .ref fb, .int fs, .ref ib])), (wta, .inl (cA 0, 12, .inl (sp_degw wt d v)))] : va_W) = [(fo, .inr (5, [.ref wta, .ref soa, .ref rea, .int (nI cnt), .ref fb, .int fs, .ref ib])), (wta, .inl (cA 0, 12, .inl wt))] := by rw [e9_0]
    exact W.iret (v := (-1)) hx hb hr (fun t9 ht9 hW9 => ⟨⟨(-1), (), rfl, (by unfold sp_degr; rw [if_pos c_1] <;> rfl), by rw [ht9, e9]; exact hP9, by rw [e9]; exact hD9⟩, hS.F ht9⟩) hS.2.2 dX5_degree_12
  · have c_1 : ¬ (d < 1) := c_1
    refine lv_iload_n hx hb dX5_degree_5 rfl (lv_at hl 1 rfl) ?_
    refine lv_bipush (v := 12) hx hb dX5_degree_6 (by decide) ?_
    refine lv_icmp_le (tgt := 13) hx hb dX5_degree_8 (by decide) (fun c_2 => ?_) (fun c_2 => ?_)
    · have c_2 : d ≤ 12 := c_2
      refine lv_iload_n hx hb dX5_degree_13 rfl (lv_at hl 2 rfl) ?_
      refine lv_if_lt (tgt := 23) hx hb dX5_degree_14 (by decide) (fun c_3 => ?_) (fun c_3 => ?_)
      · have c_3 : v < 0 := c_3
        refine lv_bipush (v := (-2)) hx hb dX5_degree_23 (by decide) ?_
        have hP9 := hP.sub (ws' := [(fo, .inr (5, [.ref wta, .ref soa, .ref rea, .int (nI cnt), .ref fb, .int fs, .ref ib])), (wta, .inl (cA 0, 12, .inl wt))]) [0, 1] rfl
        have hD9 := hD.sub (ws' := [(fo, .inr (5, [.ref wta, .ref soa, .ref rea, .int (nI cnt), .ref fb, .int fs, .ref ib])), (wta, .inl (cA 0, 12, .inl wt))]) [0, 1] (by decide) rfl
        have e9_0 : sp_degw wt d v = wt := (by unfold sp_degw; rw [if_neg c_1, if_pos c_2, if_pos c_3] <;> rfl)
        have e9 : ([(fo, .inr (5, [.ref wta, .ref soa, .ref rea, .int (nI cnt), .ref fb, .int fs, .ref ib])), (wta, .inl (cA 0, 12, .inl (sp_degw wt d v)))] : va_W) = [(fo, .inr (5, [.ref wta, .ref soa, .ref rea, .int (nI cnt), .ref fb, .int fs, .ref ib])), (wta, .inl (cA 0, 12, .inl wt))] := by rw [e9_0]
        exact W.iret (v := (-2)) hx hb hr (fun t9 ht9 hW9 => ⟨⟨(-2), (), rfl, (by unfold sp_degr; rw [if_neg c_1, if_pos c_2, if_pos c_3] <;> rfl), by rw [ht9, e9]; exact hP9, by rw [e9]; exact hD9⟩, hS.F ht9⟩) hS.2.2 dX5_degree_25
      · have c_3 : ¬ (v < 0) := c_3
        refine lv_iload_n hx hb dX5_degree_17 rfl (lv_at hl 2 rfl) ?_
        refine lv_bipush (v := 100) hx hb dX5_degree_18 (by decide) ?_
        refine lv_icmp_le (tgt := 26) hx hb dX5_degree_20 (by decide) (fun c_4 => ?_) (fun c_4 => ?_)
        · have c_4 : v ≤ 100 := c_4
          refine lv_aload_n hx hb dX5_degree_26 rfl (lv_at hl 0 rfl) ?_
          refine va_get (D := (dC, dI)) (ci := 5) (v := .ref wta) (C := RX5) (T := TX5) (N := 7) hx hb hts inX5 hown hK hP 0 rfl rfl 0 (by decide) hk_0 (fun _ h9 => h9) rfl dX5_degree_27 ?_
          refine lv_iload_n hx hb dX5_degree_30 rfl (lv_at hl 1 rfl) ?_
          refine lv_iconst (v := 1) hx hb dX5_degree_31 (by decide) ?_
          refine lv_isub hx hb dX5_degree_32 ?_
          refine va_iald (D := (dC, dI)) hx hb hK hP 1 0 rfl rfl (ku_deg c_1 c_2) dX5_degree_33 ?_
          refine lv_istore_n (lv' := [(3, .int (wt (d - 1).toNatClampNeg)), (0, .ref fo), (1, .int d), (2, .int v)]) hx hb dX5_degree_34 rfl hl (by decide) rfl (fun ls hl => ?_)
          refine lv_aload_n hx hb dX5_degree_35 rfl (lv_at hl 1 rfl) ?_
          refine va_get (D := (dC, dI)) (ci := 5) (v := .ref wta) (C := RX5) (T := TX5) (N := 7) hx hb hts inX5 hown hK hP 0 rfl rfl 0 (by decide) hk_0 (fun _ h9 => h9) rfl dX5_degree_36 ?_
          refine lv_iload_n hx hb dX5_degree_39 rfl (lv_at hl 2 rfl) ?_
          refine lv_iconst (v := 1) hx hb dX5_degree_40 (by decide) ?_
          refine lv_isub hx hb dX5_degree_41 ?_
          refine lv_iload_n hx hb dX5_degree_42 rfl (lv_at hl 3 rfl) ?_
          refine va_iast (D := (dC, dI)) hx hb hK hP hD hS 1 0 rfl rfl (ku_deg c_1 c_2) dX5_degree_43 (fun H locs hP hD hS => ?_)
          have hP : va_P (dC, dI) vwCl [(fo, .inr (5, [.ref wta, .ref soa, .ref rea, .int (nI cnt), .ref fb, .int fs, .ref ib])), (wta, .inl (cA 0, 12, .inl (upd wt (d - 1).toNatClampNeg v)))] H := hP
          have hD : va_D A [(fo, .inr (5, [.ref wta, .ref soa, .ref rea, .int (nI cnt), .ref fb, .int fs, .ref ib])), (wta, .inl (cA 0, 12, .inl (upd wt (d - 1).toNatClampNeg v)))] := hD
          refine lv_iload_n hx hb dX5_degree_44 rfl (lv_at hl 0 rfl) ?_
          have hP9 := hP.sub (ws' := [(fo, .inr (5, [.ref wta, .ref soa, .ref rea, .int (nI cnt), .ref fb, .int fs, .ref ib])), (wta, .inl (cA 0, 12, .inl (upd wt (d - 1).toNatClampNeg v)))]) [0, 1] rfl
          have hD9 := hD.sub (ws' := [(fo, .inr (5, [.ref wta, .ref soa, .ref rea, .int (nI cnt), .ref fb, .int fs, .ref ib])), (wta, .inl (cA 0, 12, .inl (upd wt (d - 1).toNatClampNeg v)))]) [0, 1] (by decide) rfl
          have e9_0 : sp_degw wt d v = upd wt (d - 1).toNatClampNeg v := (by unfold sp_degw; rw [if_neg c_1, if_pos c_2, if_neg c_3, if_pos c_4] <;> rfl)
          have e9 : ([(fo, .inr (5, [.ref wta, .ref soa, .ref rea, .int (nI cnt), .ref fb, .int fs, .ref ib])), (wta, .inl (cA 0, 12, .inl (sp_degw wt d v)))] : va_W) = [(fo, .inr (5, [.ref wta, .ref soa, .ref rea, .int (nI cnt), .ref fb, .int fs, .ref ib])), (wta, .inl (cA 0, 12, .inl (upd wt (d - 1).toNatClampNeg v)))] := by rw [e9_0]
          exact W.iret (v := wt (d - 1).toNatClampNeg) hx hb hr (fun t9 ht9 hW9 => ⟨⟨wt (d - 1).toNatClampNeg, (), rfl, (by unfold sp_degr; rw [if_neg c_1, if_pos c_2, if_neg c_3, if_pos c_4] <;> rfl), by rw [ht9, e9]; exact hP9, by rw [e9]; exact hD9⟩, hS.F ht9⟩) hS.2.2 dX5_degree_45
        · have c_4 : ¬ (v ≤ 100) := c_4
          refine lv_bipush (v := (-2)) hx hb dX5_degree_23 (by decide) ?_
          have hP9 := hP.sub (ws' := [(fo, .inr (5, [.ref wta, .ref soa, .ref rea, .int (nI cnt), .ref fb, .int fs, .ref ib])), (wta, .inl (cA 0, 12, .inl wt))]) [0, 1] rfl
          have hD9 := hD.sub (ws' := [(fo, .inr (5, [.ref wta, .ref soa, .ref rea, .int (nI cnt), .ref fb, .int fs, .ref ib])), (wta, .inl (cA 0, 12, .inl wt))]) [0, 1] (by decide) rfl
          have e9_0 : sp_degw wt d v = wt := (by unfold sp_degw; rw [if_neg c_1, if_pos c_2, if_neg c_3, if_neg c_4] <;> rfl)
          have e9 : ([(fo, .inr (5, [.ref wta, .ref soa, .ref rea, .int (nI cnt), .ref fb, .int fs, .ref ib])), (wta, .inl (cA 0, 12, .inl (sp_degw wt d v)))] : va_W) = [(fo, .inr (5, [.ref wta, .ref soa, .ref rea, .int (nI cnt), .ref fb, .int fs, .ref ib])), (wta, .inl (cA 0, 12, .inl wt))] := by rw [e9_0]
          exact W.iret (v := (-2)) hx hb hr (fun t9 ht9 hW9 => ⟨⟨(-2), (), rfl, (by unfold sp_degr; rw [if_neg c_1, if_pos c_2, if_neg c_3, if_neg c_4] <;> rfl), by rw [ht9, e9]; exact hP9, by rw [e9]; exact hD9⟩, hS.F ht9⟩) hS.2.2 dX5_degree_25
    · have c_2 : ¬ (d ≤ 12) := c_2
      refine lv_iconst (v := (-1)) hx hb dX5_degree_11 (by decide) ?_
      have hP9 := hP.sub (ws' := [(fo, .inr (5, [.ref wta, .ref soa, .ref rea, .int (nI cnt), .ref fb, .int fs, .ref ib])), (wta, .inl (cA 0, 12, .inl wt))]) [0, 1] rfl
      have hD9 := hD.sub (ws' := [(fo, .inr (5, [.ref wta, .ref soa, .ref rea, .int (nI cnt), .ref fb, .int fs, .ref ib])), (wta, .inl (cA 0, 12, .inl wt))]) [0, 1] (by decide) rfl
      have e9_0 : sp_degw wt d v = wt := (by unfold sp_degw; rw [if_neg c_1, if_neg c_2] <;> rfl)
      have e9 : ([(fo, .inr (5, [.ref wta, .ref soa, .ref rea, .int (nI cnt), .ref fb, .int fs, .ref ib])), (wta, .inl (cA 0, 12, .inl (sp_degw wt d v)))] : va_W) = [(fo, .inr (5, [.ref wta, .ref soa, .ref rea, .int (nI cnt), .ref fb, .int fs, .ref ib])), (wta, .inl (cA 0, 12, .inl wt))] := by rw [e9_0]
      exact W.iret (v := (-1)) hx hb hr (fun t9 ht9 hW9 => ⟨⟨(-1), (), rfl, (by unfold sp_degr; rw [if_neg c_1, if_neg c_2] <;> rfl), by rw [ht9, e9]; exact hP9, by rw [e9]; exact hD9⟩, hS.F ht9⟩) hS.2.2 dX5_degree_12
set_option maxHeartbeats 4000000 in
set_option maxRecDepth 100000 in
theorem c_FountainRows_frameByte (l : Launch) (dC : Nat → ClassId) (dI : Nat → Nat → Nat) (cA : Nat → ClassId) (fo : Nat) (wta : Nat) (soa : Nat) (rea : Nat) (fb : Nat) (fca : Nat) (ib : Nat) (cnt : Nat) (flen : Nat) (fs : Int32) (ff : Nat → Int32) (i : Int32) (hfl : flen ≤ 12) : Met l yX5_frameByte (kw_X5_frameByte) ({ frames := 2, cells := 0, slots := 0, locals := 42 }) (va_Pc [.ref fo, .int i] (fun U => kRO dC dI cA [(fo, .inr (5, [.ref wta, .ref soa, .ref rea, .int (nI cnt), .ref fb, .int fs, .ref ib])), (fb, .inr (0, [.ref fca, .int (nI flen)])), (fca, .inl (cA 0, 12, .inl ff))] U)) (vp_Si (fun r => r = sp_fby fs flen ff i)) 0 0 (fun _ => False) := by
  refine Met.ofW (cc := cX5_frameByte) (maxL := 2) (ret := (some .int)) (by decide) rfl ?_
  intro p e s m args below meth c s₁ B hml hv
  obtain ⟨rfl, hP, hK, hN⟩ := hv
  have hx := B.exec
  have hb := B.bytes
  have hr := B.returns
  have hts0 := atoms_spec (ws := (kw_X5_frameByte)) B.pre
  have hts : ∀ w ∈ TB, w.before _ s = true := fun w h => hts0 w (List.mem_cons_of_mem _ h)
  have hown : s.vm.findClass RX5 = some m.cls := findClass_of_methodNamed B.named
  have hlocks := B.notSynchronized
  have hk_0 := hts (.fieldLink RX5 47 "FountainRows" "frameSource" "I") tb_230
  have hk_1 := hts (.fieldLink RX5 43 "FountainRows" "frameBytes" "LFountainRows$Bytes;") tb_231
  have hl := lv_entry ([.ref fo, .int i]) (n := 2) (Nat.le_of_ble_eq_true rfl)
  rw [lg_entry_eq]
  generalize (lg_sl ([.ref fo, .int i]) ++ List.replicate (2 - (lg_sl ([.ref fo, .int i])).length) Slot.unset).toArray = ls at hl ⊢
  have hl : lv_has ls 2 [(0, .ref fo), (1, .int i)] := hl
  refine lv_aload_n hx hb dX5_frameByte_0 rfl (lv_at hl 0 rfl) ?_
  refine va_get (D := (dC, dI)) (ci := 5) (v := .int fs) (C := RX5) (T := TX5) (N := 7) hx hb hts inX5 hown hK hP 0 rfl rfl 5 (by decide) hk_0 (fun _ h9 => h9) rfl dX5_frameByte_1 ?_
  refine lv_if_ge (tgt := 10) hx hb dX5_frameByte_4 (by decide) (fun c_1 => ?_) (fun c_1 => ?_)
  · have c_1 : 0 ≤ fs := c_1
    refine lv_aload_n hx hb dX5_frameByte_10 rfl (lv_at hl 0 rfl) ?_
    refine va_get (D := (dC, dI)) (ci := 5) (v := .ref fb) (C := RX5) (T := TX5) (N := 7) hx hb hts inX5 hown hK hP 0 rfl rfl 4 (by decide) hk_1 (fun _ h9 => h9) rfl dX5_frameByte_11 ?_
    refine lv_iload_n hx hb dX5_frameByte_14 rfl (lv_at hl 1 rfl) ?_
    have hPc := hP.sub (ws' := [(fb, .inr (0, [.ref fca, .int (nI flen)]))]) [1] rfl
    refine kq_csi (va_runV (As := [.int i]) (rest := []) ⟨hx, hb, hml, hown, hts⟩ (c_Bytes_has l dC dI cA fb fca flen i) (cwV 1 hts (kg_V tb_228 tb_9 tb_10 tb_11 tb_7) rfl rfl rfl (by decide +kernel) ⟨Nat.le_of_ble_eq_true rfl, Nat.le_of_ble_eq_true rfl⟩) (kpv_ro hK hN hPc (ci := 0) (q0 := 0) rfl rfl rfl) rfl rfl hl.1 rfl (lv_room (Nat.le_of_ble_eq_true rfl)) dX5_frameByte_15 ⟨Nat.le_of_ble_eq_true rfl, Nat.le_of_ble_eq_true rfl⟩) (fun r_2 hr_2 => ?_)
    subst hr_2
    refine lv_if_eq (tgt := 32) hx hb dX5_frameByte_18 (by decide) (fun c_3 => ?_) (fun c_3 => ?_)
    · have c_3 : (sp_has flen i) = 0 := c_3
      refine lv_iconst (v := (-1)) hx hb dX5_frameByte_32 (by decide) ?_
      exact W.iret (v := (-1)) hx hb hr (fun t9 ht9 hW9 => ⟨(-1), rfl, (by unfold sp_fby; rw [if_pos c_1, if_pos c_3] <;> rfl), ht9⟩) (fun _ h => absurd h List.not_mem_nil) dX5_frameByte_33
    · have c_3 : ¬ ((sp_has flen i) = 0) := c_3
      refine lv_aload_n hx hb dX5_frameByte_21 rfl (lv_at hl 0 rfl) ?_
      refine va_get (D := (dC, dI)) (ci := 5) (v := .ref fb) (C := RX5) (T := TX5) (N := 7) hx hb hts inX5 hown hK hP 0 rfl rfl 4 (by decide) hk_1 (fun _ h9 => h9) rfl dX5_frameByte_22 ?_
      refine lv_iload_n hx hb dX5_frameByte_25 rfl (lv_at hl 1 rfl) ?_
      have hPc := hP.sub (ws' := [(fb, .inr (0, [.ref fca, .int (nI flen)])), (fca, .inl (cA 0, 12, .inl ff))]) [1, 2] rfl
      refine kq_csi (va_runV (As := [.int i]) (rest := []) ⟨hx, hb, hml, hown, hts⟩ (c_Bytes_at l dC dI cA fb fca 12 flen ff i (by first | assumption | omega) (by decide)) (cwV 1 hts (kg_V tb_229 tb_19 tb_20 tb_11 tb_17) rfl rfl rfl (by decide +kernel) ⟨Nat.le_of_ble_eq_true rfl, Nat.le_of_ble_eq_true rfl⟩) (kpv_ro hK hN hPc (ci := 0) (q0 := 0) rfl rfl rfl) rfl rfl hl.1 rfl (lv_room (Nat.le_of_ble_eq_true rfl)) dX5_frameByte_26 ⟨Nat.le_of_ble_eq_true rfl, Nat.le_of_ble_eq_true rfl⟩) (fun r_4 hr_4 => ?_)
      subst hr_4
      refine lv_goto (tgt := 33) hx hb dX5_frameByte_29 (by decide) ?_
      exact W.iret (v := sp_at flen ff i) hx hb hr (fun t9 ht9 hW9 => ⟨sp_at flen ff i, rfl, (by unfold sp_fby; rw [if_pos c_1, if_neg c_3] <;> rfl), ht9⟩) (fun _ h => absurd h List.not_mem_nil) dX5_frameByte_33
  · have c_1 : ¬ (0 ≤ fs) := c_1
    refine lv_bipush (v := (-3)) hx hb dX5_frameByte_7 (by decide) ?_
    exact W.iret (v := (-3)) hx hb hr (fun t9 ht9 hW9 => ⟨(-3), rfl, (by unfold sp_fby; rw [if_neg c_1] <;> rfl), ht9⟩) (fun _ h => absurd h List.not_mem_nil) dX5_frameByte_9
set_option maxHeartbeats 4000000 in
set_option maxRecDepth 100000 in
theorem c_FountainRows_poke (l : Launch) (dC : Nat → ClassId) (dI : Nat → Nat → Nat) (cA : Nat → ClassId) (sz : Nat) (fo : Nat) (wta : Nat) (soa : Nat) (rea : Nat) (fb : Nat) (fca : Nat) (ib : Nat) (cnt : Nat) (flen : Nat) (fs : Int32) (ff : Nat → Int32) (i : Int32) (v : Int32) (hfl : flen ≤ 12) : Met l yX5_poke (kw_X5_poke) ({ frames := 2, cells := 0, slots := 0, locals := 43 }) (va_Pc [.ref fo, .int i, .int v] (fun U => kRW dC dI cA [(fo, .inr (5, [.ref wta, .ref soa, .ref rea, .int (nI cnt), .ref fb, .int fs, .ref ib])), (fb, .inr (0, [.ref fca, .int (nI flen)])), (fca, .inl (cA 0, 12, .inl ff))] sz U)) (va_Qi (fun r (u : Unit) => r = sp_poker fs flen ff i v) (fun (u : Unit) t => kB dC dI (va_A [(fo, .inr (5, [.ref wta, .ref soa, .ref rea, .int (nI cnt), .ref fb, .int fs, .ref ib])), (fb, .inr (0, [.ref fca, .int (nI flen)])), (fca, .inl (cA 0, 12, .inl ff))] sz) [(fo, .inr (5, [.ref wta, .ref soa, .ref rea, .int (nI cnt), .ref fb, .int fs, .ref ib])), (fb, .inr (0, [.ref fca, .int (nI flen)])), (fca, .inl (cA 0, 12, .inl (sp_pokef fs flen ff i v)))] t) (va_A [(fo, .inr (5, [.ref wta, .ref soa, .ref rea, .int (nI cnt), .ref fb, .int fs, .ref ib])), (fb, .inr (0, [.ref fca, .int (nI flen)])), (fca, .inl (cA 0, 12, .inl ff))] sz)) 0 0 (va_A [(fo, .inr (5, [.ref wta, .ref soa, .ref rea, .int (nI cnt), .ref fb, .int fs, .ref ib])), (fb, .inr (0, [.ref fca, .int (nI flen)])), (fca, .inl (cA 0, 12, .inl ff))] sz) := by
  refine Met.ofW (cc := cX5_poke) (maxL := 3) (ret := (some .int)) (by decide) rfl ?_
  intro p e s m args below meth c s₁ B hml hv
  obtain ⟨rfl, hsz, hP, hK, hN, hD0⟩ := hv
  have hx := B.exec
  have hb := B.bytes
  have hr := B.returns
  have hts0 := atoms_spec (ws := (kw_X5_poke)) B.pre
  have hts : ∀ w ∈ TB, w.before _ s = true := fun w h => hts0 w (List.mem_cons_of_mem _ h)
  have hown : s.vm.findClass RX5 = some m.cls := findClass_of_methodNamed B.named
  have hlocks := B.notSynchronized
  subst hsz
  have hD := hD0.self (sz := s.heap.size)
  generalize hAe : va_A [(fo, .inr (5, [.ref wta, .ref soa, .ref rea, .int (nI cnt), .ref fb, .int fs, .ref ib])), (fb, .inr (0, [.ref fca, .int (nI flen)])), (fca, .inl (cA 0, 12, .inl ff))] s.heap.size = A at hD ⊢
  have hA : ∀ q : Nat, s.heap.size ≤ q → A q := fun q h => by rw [← hAe]; exact Or.inr h
  have hS : va_S A s.heap s.heap [] := va_S.rf
  have hk_0 := hts (.fieldLink RX5 47 "FountainRows" "frameSource" "I") tb_230
  have hk_1 := hts (.fieldLink RX5 43 "FountainRows" "frameBytes" "LFountainRows$Bytes;") tb_231
  have hl := lv_entry ([.ref fo, .int i, .int v]) (n := 3) (Nat.le_of_ble_eq_true rfl)
  rw [lg_entry_eq]
  generalize (lg_sl ([.ref fo, .int i, .int v]) ++ List.replicate (3 - (lg_sl ([.ref fo, .int i, .int v])).length) Slot.unset).toArray = ls at hl ⊢
  have hl : lv_has ls 3 [(0, .ref fo), (1, .int i), (2, .int v)] := hl
  refine lv_aload_n hx hb dX5_poke_0 rfl (lv_at hl 0 rfl) ?_
  refine va_get (D := (dC, dI)) (ci := 5) (v := .int fs) (C := RX5) (T := TX5) (N := 7) hx hb hts inX5 hown hK hP 0 rfl rfl 5 (by decide) hk_0 (fun _ h9 => h9) rfl dX5_poke_1 ?_
  refine lv_if_ge (tgt := 10) hx hb dX5_poke_4 (by decide) (fun c_1 => ?_) (fun c_1 => ?_)
  · have c_1 : 0 ≤ fs := c_1
    refine lv_aload_n hx hb dX5_poke_10 rfl (lv_at hl 0 rfl) ?_
    refine va_get (D := (dC, dI)) (ci := 5) (v := .ref fb) (C := RX5) (T := TX5) (N := 7) hx hb hts inX5 hown hK hP 0 rfl rfl 4 (by decide) hk_1 (fun _ h9 => h9) rfl dX5_poke_11 ?_
    refine lv_iload_n hx hb dX5_poke_14 rfl (lv_at hl 1 rfl) ?_
    have hPc := hP.sub (ws' := [(fb, .inr (0, [.ref fca, .int (nI flen)]))]) [1] rfl
    refine kq_csi (va_runV (As := [.int i]) (rest := []) ⟨hx, hb, hml, hown, hts⟩ (c_Bytes_has l dC dI cA fb fca flen i) (cwV 1 hts (kg_V tb_228 tb_9 tb_10 tb_11 tb_7) rfl rfl rfl (by decide +kernel) ⟨Nat.le_of_ble_eq_true rfl, Nat.le_of_ble_eq_true rfl⟩) (kpv_ro hK hN hPc (ci := 0) (q0 := 0) rfl rfl rfl) rfl rfl hl.1 rfl (lv_room (Nat.le_of_ble_eq_true rfl)) dX5_poke_15 ⟨Nat.le_of_ble_eq_true rfl, Nat.le_of_ble_eq_true rfl⟩) (fun r_2 hr_2 => ?_)
    subst hr_2
    refine lv_if_ne (tgt := 23) hx hb dX5_poke_18 (by decide) (fun c_3 => ?_) (fun c_3 => ?_)
    · have c_3 : ¬ ((sp_has flen i) = 0) := c_3
      refine lv_aload_n hx hb dX5_poke_23 rfl (lv_at hl 0 rfl) ?_
      refine va_get (D := (dC, dI)) (ci := 5) (v := .ref fb) (C := RX5) (T := TX5) (N := 7) hx hb hts inX5 hown hK hP 0 rfl rfl 4 (by decide) hk_1 (fun _ h9 => h9) rfl dX5_poke_24 ?_
      refine lv_iload_n hx hb dX5_poke_27 rfl (lv_at hl 1 rfl) ?_
      refine lv_aload_n hx hb dX5_poke_28 rfl (lv_at hl 0 rfl) ?_
      refine va_get (D := (dC, dI)) (ci := 5) (v := .ref fb) (C := RX5) (T := TX5) (N := 7) hx hb hts inX5 hown hK hP 0 rfl rfl 4 (by decide) hk_1 (fun _ h9 => h9) rfl dX5_poke_29 ?_
      refine lv_iload_n hx hb dX5_poke_32 rfl (lv_at hl 1 rfl) ?_
      have hPc := hP.sub (ws' := [(fb, .inr (0, [.ref fca, .int (nI flen)])), (fca, .inl (cA 0, 12, .inl ff))]) [1, 2] rfl
      refine kq_csi (va_runV (As := [.int i]) (rest := [.int i, .ref fb]) ⟨hx, hb, hml, hown, hts⟩ (c_Bytes_at l dC dI cA fb fca 12 flen ff i (by first | assumption | omega) (by first | assumption | omega)) (cwV 1 hts (kg_V tb_229 tb_19 tb_20 tb_11 tb_17) rfl rfl rfl (by decide +kernel) ⟨Nat.le_of_ble_eq_true rfl, Nat.le_of_ble_eq_true rfl⟩) (kpv_ro hK hN hPc (ci := 0) (q0 := 0) rfl rfl rfl) rfl rfl hl.1 rfl (lv_room (Nat.le_of_ble_eq_true rfl)) dX5_poke_33 ⟨Nat.le_of_ble_eq_true rfl, Nat.le_of_ble_eq_true rfl⟩) (fun r_4 hr_4 => ?_)
      subst hr_4
      refine lv_iload_n hx hb dX5_poke_36 rfl (lv_at hl 2 rfl) ?_
      refine lv_ixor hx hb dX5_poke_37 ?_
      have hPc := hP.sub (ws' := [(fb, .inr (0, [.ref fca, .int (nI flen)])), (fca, .inl (cA 0, 12, .inl ff))]) [1, 2] rfl
      have hDc := hD.sub (ws' := [(fb, .inr (0, [.ref fca, .int (nI flen)])), (fca, .inl (cA 0, 12, .inl ff))]) [1, 2] (by decide) rfl
      have hFc := va_free (wc := [(fb, .inr (0, [.ref fca, .int (nI flen)])), (fca, .inl (cA 0, 12, .inl ff))]) hD hS hA [1, 2] rfl
      refine va_callv (va_runV (As := [.int i, .int ((sp_at flen ff i) ^^^ v)]) (rest := []) ⟨hx, hb, hml, hown, hts⟩ (c_Bytes_put l dC dI cA s.heap.size fb fca 12 flen ff i ((sp_at flen ff i) ^^^ v) (by first | assumption | omega) (by first | assumption | omega)) (cwV 2 hts (kg_V tb_232 tb_15 tb_16 tb_11 tb_13) rfl rfl rfl (by decide +kernel) ⟨Nat.le_of_ble_eq_true rfl, Nat.le_of_ble_eq_true rfl⟩) (kpv_rw hK hN hPc hDc (ci := 0) (q0 := 0) rfl rfl rfl) rfl rfl hl.1 rfl (lv_room (Nat.le_of_ble_eq_true rfl)) dX5_poke_38 ⟨Nat.le_of_ble_eq_true rfl, Nat.le_of_ble_eq_true rfl⟩) hS (fun q _ h => hFc q h) hFc (fun u9 t9 H1 locs ht9 hvm9 hr_5 hB hz1 hk1 hS => ?_)
      obtain ⟨hP1, hD1⟩ := hB
      rw [ht9] at hP1
      obtain ⟨hP, hD⟩ := va_join (wr := [(fo, .inr (5, [.ref wta, .ref soa, .ref rea, .int (nI cnt), .ref fb, .int fs, .ref ib]))]) (w1 := [(fb, .inr (0, [.ref fca, .int (nI flen)])), (fca, .inl (cA 0, 12, .inl (sp_put flen ff i ((sp_at flen ff i) ^^^ v))))]) hP hD [1, 2] [0] rfl rfl (by decide) (by decide) hk1 hFc hP1 hD1
      generalize H1 = H at hP hS ⊢
      have hP : va_P (dC, dI) vwCl [(fo, .inr (5, [.ref wta, .ref soa, .ref rea, .int (nI cnt), .ref fb, .int fs, .ref ib])), (fb, .inr (0, [.ref fca, .int (nI flen)])), (fca, .inl (cA 0, 12, .inl (sp_put flen ff i ((sp_at flen ff i) ^^^ v))))] H := hP
      have hD : va_D A [(fo, .inr (5, [.ref wta, .ref soa, .ref rea, .int (nI cnt), .ref fb, .int fs, .ref ib])), (fb, .inr (0, [.ref fca, .int (nI flen)])), (fca, .inl (cA 0, 12, .inl (sp_put flen ff i ((sp_at flen ff i) ^^^ v))))] := hD
      refine lv_aload_n hx hb dX5_poke_41 rfl (lv_at hl 0 rfl) ?_
      refine va_get (D := (dC, dI)) (ci := 5) (v := .ref fb) (C := RX5) (T := TX5) (N := 7) hx hb hts inX5 hown hK hP 0 rfl rfl 4 (by decide) hk_1 (fun _ h9 => h9) rfl dX5_poke_42 ?_
      refine lv_iload_n hx hb dX5_poke_45 rfl (lv_at hl 1 rfl) ?_
      have hPc := hP.sub (ws' := [(fb, .inr (0, [.ref fca, .int (nI flen)])), (fca, .inl (cA 0, 12, .inl (sp_put flen ff i ((sp_at flen ff i) ^^^ v))))]) [1, 2] rfl
      refine kq_csi (va_runV (As := [.int i]) (rest := []) ⟨hx, hb, hml, hown, hts⟩ (c_Bytes_at l dC dI cA fb fca 12 flen (sp_put flen ff i ((sp_at flen ff i) ^^^ v)) i (by first | assumption | omega) (by first | assumption | omega)) (cwV 1 hts (kg_V tb_229 tb_19 tb_20 tb_11 tb_17) rfl rfl rfl (by decide +kernel) ⟨Nat.le_of_ble_eq_true rfl, Nat.le_of_ble_eq_true rfl⟩) (kpv_ro hK hN hPc (ci := 0) (q0 := 0) rfl rfl rfl) rfl rfl hl.1 rfl (lv_room (Nat.le_of_ble_eq_true rfl)) dX5_poke_46 ⟨Nat.le_of_ble_eq_true rfl, Nat.le_of_ble_eq_true rfl⟩) (fun r_6 hr_6 => ?_)
      subst hr_6
      have hP9 := hP.sub (ws' := [(fo, .inr (5, [.ref wta, .ref soa, .ref rea, .int (nI cnt), .ref fb, .int fs, .ref ib])), (fb, .inr (0, [.ref fca, .int (nI flen)])), (fca, .inl (cA 0, 12, .inl (sp_put flen ff i ((sp_at flen ff i) ^^^ v))))]) [0, 1, 2] rfl
      have hD9 := hD.sub (ws' := [(fo, .inr (5, [.ref wta, .ref soa, .ref rea, .int (nI cnt), .ref fb, .int fs, .ref ib])), (fb, .inr (0, [.ref fca, .int (nI flen)])), (fca, .inl (cA 0, 12, .inl (sp_put flen ff i ((sp_at flen ff i) ^^^ v))))]) [0, 1, 2] (by decide) rfl
      have e9_0 : sp_pokef fs flen ff i v = sp_put flen ff i ((sp_at flen ff i) ^^^ v) := (by unfold sp_pokef; rw [if_pos c_1, if_neg c_3] <;> rfl)
      have e9 : ([(fo, .inr (5, [.ref wta, .ref soa, .ref rea, .int (nI cnt), .ref fb, .int fs, .ref ib])), (fb, .inr (0, [.ref fca, .int (nI flen)])), (fca, .inl (cA 0, 12, .inl (sp_pokef fs flen ff i v)))] : va_W) = [(fo, .inr (5, [.ref wta, .ref soa, .ref rea, .int (nI cnt), .ref fb, .int fs, .ref ib])), (fb, .inr (0, [.ref fca, .int (nI flen)])), (fca, .inl (cA 0, 12, .inl (sp_put flen ff i ((sp_at flen ff i) ^^^ v))))] := by rw [e9_0]
      exact W.iret (v := sp_at flen (sp_put flen ff i ((sp_at flen ff i) ^^^ v)) i) hx hb hr (fun t9 ht9 hW9 => ⟨⟨sp_at flen (sp_put flen ff i ((sp_at flen ff i) ^^^ v)) i, (), rfl, (by unfold sp_poker; rw [if_pos c_1, if_neg c_3] <;> rfl), by rw [ht9, e9]; exact hP9, by rw [e9]; exact hD9⟩, hS.F ht9⟩) hS.2.2 dX5_poke_49
    · have c_3 : (sp_has flen i) = 0 := c_3
      refine lv_iconst (v := (-1)) hx hb dX5_poke_21 (by decide) ?_
      have hP9 := hP.sub (ws' := [(fo, .inr (5, [.ref wta, .ref soa, .ref rea, .int (nI cnt), .ref fb, .int fs, .ref ib])), (fb, .inr (0, [.ref fca, .int (nI flen)])), (fca, .inl (cA 0, 12, .inl ff))]) [0, 1, 2] rfl
      have hD9 := hD.sub (ws' := [(fo, .inr (5, [.ref wta, .ref soa, .ref rea, .int (nI cnt), .ref fb, .int fs, .ref ib])), (fb, .inr (0, [.ref fca, .int (nI flen)])), (fca, .inl (cA 0, 12, .inl ff))]) [0, 1, 2] (by decide) rfl
      have e9_0 : sp_pokef fs flen ff i v = ff := (by unfold sp_pokef; rw [if_pos c_1, if_pos c_3] <;> rfl)
      have e9 : ([(fo, .inr (5, [.ref wta, .ref soa, .ref rea, .int (nI cnt), .ref fb, .int fs, .ref ib])), (fb, .inr (0, [.ref fca, .int (nI flen)])), (fca, .inl (cA 0, 12, .inl (sp_pokef fs flen ff i v)))] : va_W) = [(fo, .inr (5, [.ref wta, .ref soa, .ref rea, .int (nI cnt), .ref fb, .int fs, .ref ib])), (fb, .inr (0, [.ref fca, .int (nI flen)])), (fca, .inl (cA 0, 12, .inl ff))] := by rw [e9_0]
      exact W.iret (v := (-1)) hx hb hr (fun t9 ht9 hW9 => ⟨⟨(-1), (), rfl, (by unfold sp_poker; rw [if_pos c_1, if_pos c_3] <;> rfl), by rw [ht9, e9]; exact hP9, by rw [e9]; exact hD9⟩, hS.F ht9⟩) hS.2.2 dX5_poke_22
  · have c_1 : ¬ (0 ≤ fs) := c_1
    refine lv_bipush (v := (-3)) hx hb dX5_poke_7 (by decide) ?_
    have hP9 := hP.sub (ws' := [(fo, .inr (5, [.ref wta, .ref soa, .ref rea, .int (nI cnt), .ref fb, .int fs, .ref ib])), (fb, .inr (0, [.ref fca, .int (nI flen)])), (fca, .inl (cA 0, 12, .inl ff))]) [0, 1, 2] rfl
    have hD9 := hD.sub (ws' := [(fo, .inr (5, [.ref wta, .ref soa, .ref rea, .int (nI cnt), .ref fb, .int fs, .ref ib])), (fb, .inr (0, [.ref fca, .int (nI flen)])), (fca, .inl (cA 0, 12, .inl ff))]) [0, 1, 2] (by decide) rfl
    have e9_0 : sp_pokef fs flen ff i v = ff := (by unfold sp_pokef; rw [if_neg c_1] <;> rfl)
    have e9 : ([(fo, .inr (5, [.ref wta, .ref soa, .ref rea, .int (nI cnt), .ref fb, .int fs, .ref ib])), (fb, .inr (0, [.ref fca, .int (nI flen)])), (fca, .inl (cA 0, 12, .inl (sp_pokef fs flen ff i v)))] : va_W) = [(fo, .inr (5, [.ref wta, .ref soa, .ref rea, .int (nI cnt), .ref fb, .int fs, .ref ib])), (fb, .inr (0, [.ref fca, .int (nI flen)])), (fca, .inl (cA 0, 12, .inl ff))] := by rw [e9_0]
    exact W.iret (v := (-3)) hx hb hr (fun t9 ht9 hW9 => ⟨⟨(-3), (), rfl, (by unfold sp_poker; rw [if_neg c_1] <;> rfl), by rw [ht9, e9]; exact hP9, by rw [e9]; exact hD9⟩, hS.F ht9⟩) hS.2.2 dX5_poke_9
set_option maxHeartbeats 4000000 in
set_option maxRecDepth 100000 in
theorem c_FountainRows_imageByte (l : Launch) (dC : Nat → ClassId) (dI : Nat → Nat → Nat) (cA : Nat → ClassId) (fo : Nat) (wta : Nat) (soa : Nat) (rea : Nat) (fb : Nat) (ib : Nat) (ica : Nat) (cnt : Nat) (ilen : Nat) (fs : Int32) (fi : Nat → Int32) (i : Int32) (hil : ilen ≤ 651) : Met l yX5_imageByte (kw_X5_imageByte) ({ frames := 2, cells := 0, slots := 0, locals := 42 }) (va_Pc [.ref fo, .int i] (fun U => kRO dC dI cA [(fo, .inr (5, [.ref wta, .ref soa, .ref rea, .int (nI cnt), .ref fb, .int fs, .ref ib])), (ib, .inr (0, [.ref ica, .int (nI ilen)])), (ica, .inl (cA 0, 651, .inl fi))] U)) (vp_Si (fun r => r = sp_iby ilen fi i)) 0 0 (fun _ => False) := by
  refine Met.ofW (cc := cX5_imageByte) (maxL := 2) (ret := (some .int)) (by decide) rfl ?_
  intro p e s m args below meth c s₁ B hml hv
  obtain ⟨rfl, hP, hK, hN⟩ := hv
  have hx := B.exec
  have hb := B.bytes
  have hr := B.returns
  have hts0 := atoms_spec (ws := (kw_X5_imageByte)) B.pre
  have hts : ∀ w ∈ TB, w.before _ s = true := fun w h => hts0 w (List.mem_cons_of_mem _ h)
  have hown : s.vm.findClass RX5 = some m.cls := findClass_of_methodNamed B.named
  have hlocks := B.notSynchronized
  have hk_0 := hts (.fieldLink RX5 50 "FountainRows" "imageBytes" "LFountainRows$Bytes;") tb_233
  have hl := lv_entry ([.ref fo, .int i]) (n := 2) (Nat.le_of_ble_eq_true rfl)
  rw [lg_entry_eq]
  generalize (lg_sl ([.ref fo, .int i]) ++ List.replicate (2 - (lg_sl ([.ref fo, .int i])).length) Slot.unset).toArray = ls at hl ⊢
  have hl : lv_has ls 2 [(0, .ref fo), (1, .int i)] := hl
  refine lv_aload_n hx hb dX5_imageByte_0 rfl (lv_at hl 0 rfl) ?_
  refine va_get (D := (dC, dI)) (ci := 5) (v := .ref ib) (C := RX5) (T := TX5) (N := 7) hx hb hts inX5 hown hK hP 0 rfl rfl 6 (by decide) hk_0 (fun _ h9 => h9) rfl dX5_imageByte_1 ?_
  refine lv_iload_n hx hb dX5_imageByte_4 rfl (lv_at hl 1 rfl) ?_
  have hPc := hP.sub (ws' := [(ib, .inr (0, [.ref ica, .int (nI ilen)]))]) [1] rfl
  refine kq_csi (va_runV (As := [.int i]) (rest := []) ⟨hx, hb, hml, hown, hts⟩ (c_Bytes_has l dC dI cA ib ica ilen i) (cwV 1 hts (kg_V tb_228 tb_9 tb_10 tb_11 tb_7) rfl rfl rfl (by decide +kernel) ⟨Nat.le_of_ble_eq_true rfl, Nat.le_of_ble_eq_true rfl⟩) (kpv_ro hK hN hPc (ci := 0) (q0 := 0) rfl rfl rfl) rfl rfl hl.1 rfl (lv_room (Nat.le_of_ble_eq_true rfl)) dX5_imageByte_5 ⟨Nat.le_of_ble_eq_true rfl, Nat.le_of_ble_eq_true rfl⟩) (fun r_1 hr_1 => ?_)
  subst hr_1
  refine lv_if_eq (tgt := 22) hx hb dX5_imageByte_8 (by decide) (fun c_2 => ?_) (fun c_2 => ?_)
  · have c_2 : (sp_has ilen i) = 0 := c_2
    refine lv_iconst (v := (-1)) hx hb dX5_imageByte_22 (by decide) ?_
    exact W.iret (v := (-1)) hx hb hr (fun t9 ht9 hW9 => ⟨(-1), rfl, (by unfold sp_iby; rw [if_pos c_2] <;> rfl), ht9⟩) (fun _ h => absurd h List.not_mem_nil) dX5_imageByte_23
  · have c_2 : ¬ ((sp_has ilen i) = 0) := c_2
    refine lv_aload_n hx hb dX5_imageByte_11 rfl (lv_at hl 0 rfl) ?_
    refine va_get (D := (dC, dI)) (ci := 5) (v := .ref ib) (C := RX5) (T := TX5) (N := 7) hx hb hts inX5 hown hK hP 0 rfl rfl 6 (by decide) hk_0 (fun _ h9 => h9) rfl dX5_imageByte_12 ?_
    refine lv_iload_n hx hb dX5_imageByte_15 rfl (lv_at hl 1 rfl) ?_
    have hPc := hP.sub (ws' := [(ib, .inr (0, [.ref ica, .int (nI ilen)])), (ica, .inl (cA 0, 651, .inl fi))]) [1, 2] rfl
    refine kq_csi (va_runV (As := [.int i]) (rest := []) ⟨hx, hb, hml, hown, hts⟩ (c_Bytes_at l dC dI cA ib ica 651 ilen fi i (by first | assumption | omega) (by first | assumption | omega)) (cwV 1 hts (kg_V tb_229 tb_19 tb_20 tb_11 tb_17) rfl rfl rfl (by decide +kernel) ⟨Nat.le_of_ble_eq_true rfl, Nat.le_of_ble_eq_true rfl⟩) (kpv_ro hK hN hPc (ci := 0) (q0 := 0) rfl rfl rfl) rfl rfl hl.1 rfl (lv_room (Nat.le_of_ble_eq_true rfl)) dX5_imageByte_16 ⟨Nat.le_of_ble_eq_true rfl, Nat.le_of_ble_eq_true rfl⟩) (fun r_3 hr_3 => ?_)
    subst hr_3
    refine lv_goto (tgt := 23) hx hb dX5_imageByte_19 (by decide) ?_
    exact W.iret (v := sp_at ilen fi i) hx hb hr (fun t9 ht9 hW9 => ⟨sp_at ilen fi i, rfl, (by unfold sp_iby; rw [if_neg c_2] <;> rfl), ht9⟩) (fun _ h => absurd h List.not_mem_nil) dX5_imageByte_23
set_option maxHeartbeats 4000000 in
set_option maxRecDepth 100000 in
theorem c_FountainRows_setByte (l : Launch) (dC : Nat → ClassId) (dI : Nat → Nat → Nat) (cA : Nat → ClassId) (sz : Nat) (fo : Nat) (wta : Nat) (soa : Nat) (rea : Nat) (fb : Nat) (ib : Nat) (ica : Nat) (cnt : Nat) (ilen : Nat) (fs : Int32) (fi : Nat → Int32) (i : Int32) (v : Int32) (hil : ilen ≤ 651) : Met l yX5_setByte (kw_X5_setByte) ({ frames := 2, cells := 0, slots := 0, locals := 43 }) (va_Pc [.ref fo, .int i, .int v] (fun U => kRW dC dI cA [(fo, .inr (5, [.ref wta, .ref soa, .ref rea, .int (nI cnt), .ref fb, .int fs, .ref ib])), (ib, .inr (0, [.ref ica, .int (nI ilen)])), (ica, .inl (cA 0, 651, .inl fi))] sz U)) (va_Qi (fun r (u : Unit) => r = sp_iby ilen fi i) (fun (u : Unit) t => kB dC dI (va_A [(fo, .inr (5, [.ref wta, .ref soa, .ref rea, .int (nI cnt), .ref fb, .int fs, .ref ib])), (ib, .inr (0, [.ref ica, .int (nI ilen)])), (ica, .inl (cA 0, 651, .inl fi))] sz) [(fo, .inr (5, [.ref wta, .ref soa, .ref rea, .int (nI cnt), .ref fb, .int fs, .ref ib])), (ib, .inr (0, [.ref ica, .int (nI ilen)])), (ica, .inl (cA 0, 651, .inl (sp_put ilen fi i v)))] t) (va_A [(fo, .inr (5, [.ref wta, .ref soa, .ref rea, .int (nI cnt), .ref fb, .int fs, .ref ib])), (ib, .inr (0, [.ref ica, .int (nI ilen)])), (ica, .inl (cA 0, 651, .inl fi))] sz)) 0 0 (va_A [(fo, .inr (5, [.ref wta, .ref soa, .ref rea, .int (nI cnt), .ref fb, .int fs, .ref ib])), (ib, .inr (0, [.ref ica, .int (nI ilen)])), (ica, .inl (cA 0, 651, .inl fi))] sz) := by
  refine Met.ofW (cc := cX5_setByte) (maxL := 4) (ret := (some .int)) (by decide) rfl ?_
  intro p e s m args below meth c s₁ B hml hv
  obtain ⟨rfl, hsz, hP, hK, hN, hD0⟩ := hv
  have hx := B.exec
  have hb := B.bytes
  have hr := B.returns
  have hts0 := atoms_spec (ws := (kw_X5_setByte)) B.pre
  have hts : ∀ w ∈ TB, w.before _ s = true := fun w h => hts0 w (List.mem_cons_of_mem _ h)
  have hown : s.vm.findClass RX5 = some m.cls := findClass_of_methodNamed B.named
  have hlocks := B.notSynchronized
  subst hsz
  have hD := hD0.self (sz := s.heap.size)
  generalize hAe : va_A [(fo, .inr (5, [.ref wta, .ref soa, .ref rea, .int (nI cnt), .ref fb, .int fs, .ref ib])), (ib, .inr (0, [.ref ica, .int (nI ilen)])), (ica, .inl (cA 0, 651, .inl fi))] s.heap.size = A at hD ⊢
  have hA : ∀ q : Nat, s.heap.size ≤ q → A q := fun q h => by rw [← hAe]; exact Or.inr h
  have hS : va_S A s.heap s.heap [] := va_S.rf
  have hk_0 := hts (.fieldLink RX5 50 "FountainRows" "imageBytes" "LFountainRows$Bytes;") tb_233
  have hl := lv_entry ([.ref fo, .int i, .int v]) (n := 4) (Nat.le_of_ble_eq_true rfl)
  rw [lg_entry_eq]
  generalize (lg_sl ([.ref fo, .int i, .int v]) ++ List.replicate (4 - (lg_sl ([.ref fo, .int i, .int v])).length) Slot.unset).toArray = ls at hl ⊢
  have hl : lv_has ls 4 [(0, .ref fo), (1, .int i), (2, .int v)] := hl
  refine lv_aload_n hx hb dX5_setByte_0 rfl (lv_at hl 0 rfl) ?_
  refine va_get (D := (dC, dI)) (ci := 5) (v := .ref ib) (C := RX5) (T := TX5) (N := 7) hx hb hts inX5 hown hK hP 0 rfl rfl 6 (by decide) hk_0 (fun _ h9 => h9) rfl dX5_setByte_1 ?_
  refine lv_iload_n hx hb dX5_setByte_4 rfl (lv_at hl 1 rfl) ?_
  have hPc := hP.sub (ws' := [(ib, .inr (0, [.ref ica, .int (nI ilen)]))]) [1] rfl
  refine kq_csi (va_runV (As := [.int i]) (rest := []) ⟨hx, hb, hml, hown, hts⟩ (c_Bytes_has l dC dI cA ib ica ilen i) (cwV 1 hts (kg_V tb_228 tb_9 tb_10 tb_11 tb_7) rfl rfl rfl (by decide +kernel) ⟨Nat.le_of_ble_eq_true rfl, Nat.le_of_ble_eq_true rfl⟩) (kpv_ro hK hN hPc (ci := 0) (q0 := 0) rfl rfl rfl) rfl rfl hl.1 rfl (lv_room (Nat.le_of_ble_eq_true rfl)) dX5_setByte_5 ⟨Nat.le_of_ble_eq_true rfl, Nat.le_of_ble_eq_true rfl⟩) (fun r_1 hr_1 => ?_)
  subst hr_1
  refine lv_if_ne (tgt := 13) hx hb dX5_setByte_8 (by decide) (fun c_2 => ?_) (fun c_2 => ?_)
  · have c_2 : ¬ ((sp_has ilen i) = 0) := c_2
    refine lv_aload_n hx hb dX5_setByte_13 rfl (lv_at hl 0 rfl) ?_
    refine va_get (D := (dC, dI)) (ci := 5) (v := .ref ib) (C := RX5) (T := TX5) (N := 7) hx hb hts inX5 hown hK hP 0 rfl rfl 6 (by decide) hk_0 (fun _ h9 => h9) rfl dX5_setByte_14 ?_
    refine lv_iload_n hx hb dX5_setByte_17 rfl (lv_at hl 1 rfl) ?_
    have hPc := hP.sub (ws' := [(ib, .inr (0, [.ref ica, .int (nI ilen)])), (ica, .inl (cA 0, 651, .inl fi))]) [1, 2] rfl
    refine kq_csi (va_runV (As := [.int i]) (rest := []) ⟨hx, hb, hml, hown, hts⟩ (c_Bytes_at l dC dI cA ib ica 651 ilen fi i (by first | assumption | omega) (by first | assumption | omega)) (cwV 1 hts (kg_V tb_229 tb_19 tb_20 tb_11 tb_17) rfl rfl rfl (by decide +kernel) ⟨Nat.le_of_ble_eq_true rfl, Nat.le_of_ble_eq_true rfl⟩) (kpv_ro hK hN hPc (ci := 0) (q0 := 0) rfl rfl rfl) rfl rfl hl.1 rfl (lv_room (Nat.le_of_ble_eq_true rfl)) dX5_setByte_18 ⟨Nat.le_of_ble_eq_true rfl, Nat.le_of_ble_eq_true rfl⟩) (fun r_3 hr_3 => ?_)
    subst hr_3
    refine lv_istore_n (lv' := [(3, .int (sp_at ilen fi i)), (0, .ref fo), (1, .int i), (2, .int v)]) hx hb dX5_setByte_21 rfl hl (by decide) rfl (fun ls hl => ?_)
    refine lv_aload_n hx hb dX5_setByte_22 rfl (lv_at hl 1 rfl) ?_
    refine va_get (D := (dC, dI)) (ci := 5) (v := .ref ib) (C := RX5) (T := TX5) (N := 7) hx hb hts inX5 hown hK hP 0 rfl rfl 6 (by decide) hk_0 (fun _ h9 => h9) rfl dX5_setByte_23 ?_
    refine lv_iload_n hx hb dX5_setByte_26 rfl (lv_at hl 2 rfl) ?_
    refine lv_iload_n hx hb dX5_setByte_27 rfl (lv_at hl 3 rfl) ?_
    have hPc := hP.sub (ws' := [(ib, .inr (0, [.ref ica, .int (nI ilen)])), (ica, .inl (cA 0, 651, .inl fi))]) [1, 2] rfl
    have hDc := hD.sub (ws' := [(ib, .inr (0, [.ref ica, .int (nI ilen)])), (ica, .inl (cA 0, 651, .inl fi))]) [1, 2] (by decide) rfl
    have hFc := va_free (wc := [(ib, .inr (0, [.ref ica, .int (nI ilen)])), (ica, .inl (cA 0, 651, .inl fi))]) hD hS hA [1, 2] rfl
    refine va_callv (va_runV (As := [.int i, .int v]) (rest := []) ⟨hx, hb, hml, hown, hts⟩ (c_Bytes_put l dC dI cA s.heap.size ib ica 651 ilen fi i v (by first | assumption | omega) (by first | assumption | omega)) (cwV 2 hts (kg_V tb_232 tb_15 tb_16 tb_11 tb_13) rfl rfl rfl (by decide +kernel) ⟨Nat.le_of_ble_eq_true rfl, Nat.le_of_ble_eq_true rfl⟩) (kpv_rw hK hN hPc hDc (ci := 0) (q0 := 0) rfl rfl rfl) rfl rfl hl.1 rfl (lv_room (Nat.le_of_ble_eq_true rfl)) dX5_setByte_28 ⟨Nat.le_of_ble_eq_true rfl, Nat.le_of_ble_eq_true rfl⟩) hS (fun q _ h => hFc q h) hFc (fun u9 t9 H1 locs ht9 hvm9 hr_4 hB hz1 hk1 hS => ?_)
    obtain ⟨hP1, hD1⟩ := hB
    rw [ht9] at hP1
    obtain ⟨hP, hD⟩ := va_join (wr := [(fo, .inr (5, [.ref wta, .ref soa, .ref rea, .int (nI cnt), .ref fb, .int fs, .ref ib]))]) (w1 := [(ib, .inr (0, [.ref ica, .int (nI ilen)])), (ica, .inl (cA 0, 651, .inl (sp_put ilen fi i v)))]) hP hD [1, 2] [0] rfl rfl (by decide) (by decide) hk1 hFc hP1 hD1
    generalize H1 = H at hP hS ⊢
    have hP : va_P (dC, dI) vwCl [(fo, .inr (5, [.ref wta, .ref soa, .ref rea, .int (nI cnt), .ref fb, .int fs, .ref ib])), (ib, .inr (0, [.ref ica, .int (nI ilen)])), (ica, .inl (cA 0, 651, .inl (sp_put ilen fi i v)))] H := hP
    have hD : va_D A [(fo, .inr (5, [.ref wta, .ref soa, .ref rea, .int (nI cnt), .ref fb, .int fs, .ref ib])), (ib, .inr (0, [.ref ica, .int (nI ilen)])), (ica, .inl (cA 0, 651, .inl (sp_put ilen fi i v)))] := hD
    refine lv_iload_n hx hb dX5_setByte_31 rfl (lv_at hl 0 rfl) ?_
    have hP9 := hP.sub (ws' := [(fo, .inr (5, [.ref wta, .ref soa, .ref rea, .int (nI cnt), .ref fb, .int fs, .ref ib])), (ib, .inr (0, [.ref ica, .int (nI ilen)])), (ica, .inl (cA 0, 651, .inl (sp_put ilen fi i v)))]) [0, 1, 2] rfl
    have hD9 := hD.sub (ws' := [(fo, .inr (5, [.ref wta, .ref soa, .ref rea, .int (nI cnt), .ref fb, .int fs, .ref ib])), (ib, .inr (0, [.ref ica, .int (nI ilen)])), (ica, .inl (cA 0, 651, .inl (sp_put ilen fi i v)))]) [0, 1, 2] (by decide) rfl
    exact W.iret (v := sp_at ilen fi i) hx hb hr (fun t9 ht9 hW9 => ⟨⟨sp_at ilen fi i, (), rfl, (by unfold sp_iby; rw [if_neg c_2] <;> rfl), by rw [ht9]; exact hP9, hD9⟩, hS.F ht9⟩) hS.2.2 dX5_setByte_32
  · have c_2 : (sp_has ilen i) = 0 := c_2
    refine lv_iconst (v := (-1)) hx hb dX5_setByte_11 (by decide) ?_
    have hP9 := hP.sub (ws' := [(fo, .inr (5, [.ref wta, .ref soa, .ref rea, .int (nI cnt), .ref fb, .int fs, .ref ib])), (ib, .inr (0, [.ref ica, .int (nI ilen)])), (ica, .inl (cA 0, 651, .inl fi))]) [0, 1, 2] rfl
    have hD9 := hD.sub (ws' := [(fo, .inr (5, [.ref wta, .ref soa, .ref rea, .int (nI cnt), .ref fb, .int fs, .ref ib])), (ib, .inr (0, [.ref ica, .int (nI ilen)])), (ica, .inl (cA 0, 651, .inl fi))]) [0, 1, 2] (by decide) rfl
    have e9_0 : sp_put ilen fi i v = fi := (by unfold sp_put; rw [if_pos (by assumption)])
    have e9 : ([(fo, .inr (5, [.ref wta, .ref soa, .ref rea, .int (nI cnt), .ref fb, .int fs, .ref ib])), (ib, .inr (0, [.ref ica, .int (nI ilen)])), (ica, .inl (cA 0, 651, .inl (sp_put ilen fi i v)))] : va_W) = [(fo, .inr (5, [.ref wta, .ref soa, .ref rea, .int (nI cnt), .ref fb, .int fs, .ref ib])), (ib, .inr (0, [.ref ica, .int (nI ilen)])), (ica, .inl (cA 0, 651, .inl fi))] := by rw [e9_0]
    exact W.iret (v := (-1)) hx hb hr (fun t9 ht9 hW9 => ⟨⟨(-1), (), rfl, (by unfold sp_iby; rw [if_pos c_2] <;> rfl), by rw [ht9, e9]; exact hP9, by rw [e9]; exact hD9⟩, hS.F ht9⟩) hS.2.2 dX5_setByte_12
set_option maxHeartbeats 4000000 in
set_option maxRecDepth 100000 in
theorem c_FountainRows_cut (l : Launch) (dC : Nat → ClassId) (dI : Nat → Nat → Nat) (cA : Nat → ClassId) (sz : Nat) (fo : Nat) (wta : Nat) (soa : Nat) (rea : Nat) (fb : Nat) (ib : Nat) (ica : Nat) (cnt : Nat) (ilen : Nat) (fs : Int32) (fi : Nat → Int32) (i : Int32) (hil : ilen ≤ 651) : Met l yX5_cut (kw_X5_cut) ({ frames := 1, cells := 0, slots := 0, locals := 21 }) (va_Pc [.ref fo, .int i] (fun U => kRW dC dI cA [(fo, .inr (5, [.ref wta, .ref soa, .ref rea, .int (nI cnt), .ref fb, .int fs, .ref ib])), (ib, .inr (0, [.ref ica, .int (nI ilen)])), (ica, .inl (cA 0, 651, .inl fi))] sz U)) (va_Qi (fun r (u : Unit) => r = sp_cutr ilen i) (fun (u : Unit) t => kB dC dI (va_A [(fo, .inr (5, [.ref wta, .ref soa, .ref rea, .int (nI cnt), .ref fb, .int fs, .ref ib])), (ib, .inr (0, [.ref ica, .int (nI ilen)])), (ica, .inl (cA 0, 651, .inl fi))] sz) [(fo, .inr (5, [.ref wta, .ref soa, .ref rea, .int (nI cnt), .ref fb, .int fs, .ref ib])), (ib, .inr (0, [.ref ica, .int (nI (sp_cutl ilen i))])), (ica, .inl (cA 0, 651, .inl fi))] t) (va_A [(fo, .inr (5, [.ref wta, .ref soa, .ref rea, .int (nI cnt), .ref fb, .int fs, .ref ib])), (ib, .inr (0, [.ref ica, .int (nI ilen)])), (ica, .inl (cA 0, 651, .inl fi))] sz)) 0 0 (va_A [(fo, .inr (5, [.ref wta, .ref soa, .ref rea, .int (nI cnt), .ref fb, .int fs, .ref ib])), (ib, .inr (0, [.ref ica, .int (nI ilen)])), (ica, .inl (cA 0, 651, .inl fi))] sz) := by
  refine Met.ofW (cc := cX5_cut) (maxL := 3) (ret := (some .int)) (by decide) rfl ?_
  intro p e s m args below meth c s₁ B hml hv
  obtain ⟨rfl, hsz, hP, hK, hN, hD0⟩ := hv
  have hx := B.exec
  have hb := B.bytes
  have hr := B.returns
  have hts0 := atoms_spec (ws := (kw_X5_cut)) B.pre
  have hts : ∀ w ∈ TB, w.before _ s = true := fun w h => hts0 w (List.mem_cons_of_mem _ h)
  have hown : s.vm.findClass RX5 = some m.cls := findClass_of_methodNamed B.named
  have hlocks := B.notSynchronized
  subst hsz
  have hD := hD0.self (sz := s.heap.size)
  generalize hAe : va_A [(fo, .inr (5, [.ref wta, .ref soa, .ref rea, .int (nI cnt), .ref fb, .int fs, .ref ib])), (ib, .inr (0, [.ref ica, .int (nI ilen)])), (ica, .inl (cA 0, 651, .inl fi))] s.heap.size = A at hD ⊢
  have hA : ∀ q : Nat, s.heap.size ≤ q → A q := fun q h => by rw [← hAe]; exact Or.inr h
  have hS : va_S A s.heap s.heap [] := va_S.rf
  have hk_0 := hts (.fieldLink RX5 50 "FountainRows" "imageBytes" "LFountainRows$Bytes;") tb_233
  have hk_1 : ∀ A9 : Array Value, (Cond.fieldLinkNest RX5 111 "FountainRows$Bytes" "length" "I" "FountainRows").before A9 s = true := fun _ => va_Nw.use rfl (hN.1 (RX5, 111, "FountainRows$Bytes", "length", "I", "FountainRows") (List.mem_of_getElem? (i := 0) rfl))
  have hl := lv_entry ([.ref fo, .int i]) (n := 3) (Nat.le_of_ble_eq_true rfl)
  rw [lg_entry_eq]
  generalize (lg_sl ([.ref fo, .int i]) ++ List.replicate (3 - (lg_sl ([.ref fo, .int i])).length) Slot.unset).toArray = ls at hl ⊢
  have hl : lv_has ls 3 [(0, .ref fo), (1, .int i)] := hl
  refine lv_aload_n hx hb dX5_cut_0 rfl (lv_at hl 0 rfl) ?_
  refine va_get (D := (dC, dI)) (ci := 5) (v := .ref ib) (C := RX5) (T := TX5) (N := 7) hx hb hts inX5 hown hK hP 0 rfl rfl 6 (by decide) hk_0 (fun _ h9 => h9) rfl dX5_cut_1 ?_
  refine va_getN (D := (dC, dI)) (ci := 0) (v := .int (nI ilen)) (C := RX0) (T := TX0) (N := 2) hx hb hts inX0 hown hK hP 1 rfl rfl 1 (by decide) (hk_1 _) (fun _ h9 => h9) rfl dX5_cut_4 ?_
  refine lv_istore_n (lv' := [(2, .int (nI ilen)), (0, .ref fo), (1, .int i)]) hx hb dX5_cut_7 rfl hl (by decide) rfl (fun ls hl => ?_)
  refine lv_iload_n hx hb dX5_cut_8 rfl (lv_at hl 2 rfl) ?_
  refine lv_if_lt (tgt := 17) hx hb dX5_cut_9 (by decide) (fun c_1 => ?_) (fun c_1 => ?_)
  · have c_1 : i < 0 := c_1
    have h0 := c_1
    refine lv_bipush (v := (-2)) hx hb dX5_cut_17 (by decide) ?_
    have hP9 := hP.sub (ws' := [(fo, .inr (5, [.ref wta, .ref soa, .ref rea, .int (nI cnt), .ref fb, .int fs, .ref ib])), (ib, .inr (0, [.ref ica, .int (nI ilen)])), (ica, .inl (cA 0, 651, .inl fi))]) [0, 1, 2] rfl
    have hD9 := hD.sub (ws' := [(fo, .inr (5, [.ref wta, .ref soa, .ref rea, .int (nI cnt), .ref fb, .int fs, .ref ib])), (ib, .inr (0, [.ref ica, .int (nI ilen)])), (ica, .inl (cA 0, 651, .inl fi))]) [0, 1, 2] (by decide) rfl
    have e9_0 : nI (sp_cutl ilen i) = nI ilen := (by first | rw [sp_cut_d h0] | rw [hi9, sp_cut_e (by omega) (by omega) h1] | rw [hi9, sp_cut_f (by omega) (by omega) h1])
    have e9 : ([(fo, .inr (5, [.ref wta, .ref soa, .ref rea, .int (nI cnt), .ref fb, .int fs, .ref ib])), (ib, .inr (0, [.ref ica, .int (nI (sp_cutl ilen i))])), (ica, .inl (cA 0, 651, .inl fi))] : va_W) = [(fo, .inr (5, [.ref wta, .ref soa, .ref rea, .int (nI cnt), .ref fb, .int fs, .ref ib])), (ib, .inr (0, [.ref ica, .int (nI ilen)])), (ica, .inl (cA 0, 651, .inl fi))] := by rw [e9_0]
    exact W.iret (v := (-2)) hx hb hr (fun t9 ht9 hW9 => ⟨⟨(-2), (), rfl, (by first | exact sp_cut_a h0 | (rw [hi9]; exact (sp_cut_b (by omega) (by omega) h1).symm) | (rw [hi9]; exact (sp_cut_c (by omega) (by omega) h1).symm)), by rw [ht9, e9]; exact hP9, by rw [e9]; exact hD9⟩, hS.F ht9⟩) hS.2.2 dX5_cut_19
  · have c_1 : ¬ (i < 0) := c_1
    have h0 := c_1
    obtain ⟨jj, hjj, hi9⟩ := nI_of h0
    rw [hi9] at hl
    refine lv_iload_n hx hb dX5_cut_12 rfl (lv_at hl 2 rfl) ?_
    refine lv_iload_n hx hb dX5_cut_13 rfl (lv_at hl 0 rfl) ?_
    refine lv_icmp_le (tgt := 20) hx hb dX5_cut_14 (by decide) (fun c_2 => ?_) (fun c_2 => ?_)
    · have c_2 : (nI jj) ≤ (nI ilen) := c_2
      have h1 : jj ≤ ilen := (nI_leI hjj (by omega)).mp c_2
      refine lv_aload_n hx hb dX5_cut_20 rfl (lv_at hl 1 rfl) ?_
      refine va_get (D := (dC, dI)) (ci := 5) (v := .ref ib) (C := RX5) (T := TX5) (N := 7) hx hb hts inX5 hown hK hP 0 rfl rfl 6 (by decide) hk_0 (fun _ h9 => h9) rfl dX5_cut_21 ?_
      refine lv_iload_n hx hb dX5_cut_24 rfl (lv_at hl 2 rfl) ?_
      have hPc := hP.sub (ws' := [(ib, .inr (0, [.ref ica, .int (nI ilen)])), (ica, .inl (cA 0, 651, .inl fi))]) [1, 2] rfl
      have hDc := hD.sub (ws' := [(ib, .inr (0, [.ref ica, .int (nI ilen)])), (ica, .inl (cA 0, 651, .inl fi))]) [1, 2] (by decide) rfl
      have hFc := va_free (wc := [(ib, .inr (0, [.ref ica, .int (nI ilen)])), (ica, .inl (cA 0, 651, .inl fi))]) hD hS hA [1, 2] rfl
      refine va_callv (va_runV (As := [.int (nI jj)]) (rest := []) ⟨hx, hb, hml, hown, hts⟩ (c_Bytes_shorten l dC dI cA s.heap.size ib ica 651 ilen fi jj (by first | assumption | omega) (by first | assumption | omega) (by first | assumption | omega)) (cwV 1 hts (kg_V tb_234 tb_191 tb_192 tb_11 tb_189) rfl rfl rfl (by decide +kernel) ⟨Nat.le_of_ble_eq_true rfl, Nat.le_of_ble_eq_true rfl⟩) (kpv_rw hK hN hPc hDc (ci := 0) (q0 := 0) rfl rfl rfl) rfl rfl hl.1 rfl (lv_room (Nat.le_of_ble_eq_true rfl)) dX5_cut_25 ⟨Nat.le_of_ble_eq_true rfl, Nat.le_of_ble_eq_true rfl⟩) hS (fun q _ h => hFc q h) hFc (fun u9 t9 H1 locs ht9 hvm9 hr_3 hB hz1 hk1 hS => ?_)
      obtain ⟨hP1, hD1⟩ := hB
      rw [ht9] at hP1
      obtain ⟨hP, hD⟩ := va_join (wr := [(fo, .inr (5, [.ref wta, .ref soa, .ref rea, .int (nI cnt), .ref fb, .int fs, .ref ib]))]) (w1 := [(ib, .inr (0, [.ref ica, .int (nI (if jj < ilen then jj else ilen))])), (ica, .inl (cA 0, 651, .inl fi))]) hP hD [1, 2] [0] rfl rfl (by decide) (by decide) hk1 hFc hP1 hD1
      generalize H1 = H at hP hS ⊢
      have hP : va_P (dC, dI) vwCl [(fo, .inr (5, [.ref wta, .ref soa, .ref rea, .int (nI cnt), .ref fb, .int fs, .ref ib])), (ib, .inr (0, [.ref ica, .int (nI (if jj < ilen then jj else ilen))])), (ica, .inl (cA 0, 651, .inl fi))] H := hP
      have hD : va_D A [(fo, .inr (5, [.ref wta, .ref soa, .ref rea, .int (nI cnt), .ref fb, .int fs, .ref ib])), (ib, .inr (0, [.ref ica, .int (nI (if jj < ilen then jj else ilen))])), (ica, .inl (cA 0, 651, .inl fi))] := hD
      refine lv_iload_n hx hb dX5_cut_28 rfl (lv_at hl 0 rfl) ?_
      have hP9 := hP.sub (ws' := [(fo, .inr (5, [.ref wta, .ref soa, .ref rea, .int (nI cnt), .ref fb, .int fs, .ref ib])), (ib, .inr (0, [.ref ica, .int (nI (if jj < ilen then jj else ilen))])), (ica, .inl (cA 0, 651, .inl fi))]) [0, 1, 2] rfl
      have hD9 := hD.sub (ws' := [(fo, .inr (5, [.ref wta, .ref soa, .ref rea, .int (nI cnt), .ref fb, .int fs, .ref ib])), (ib, .inr (0, [.ref ica, .int (nI (if jj < ilen then jj else ilen))])), (ica, .inl (cA 0, 651, .inl fi))]) [0, 1, 2] (by decide) rfl
      have e9_0 : nI (sp_cutl ilen i) = nI (if jj < ilen then jj else ilen) := (by first | rw [sp_cut_d h0] | rw [hi9, sp_cut_e (by omega) (by omega) h1] | rw [hi9, sp_cut_f (by omega) (by omega) h1])
      have e9 : ([(fo, .inr (5, [.ref wta, .ref soa, .ref rea, .int (nI cnt), .ref fb, .int fs, .ref ib])), (ib, .inr (0, [.ref ica, .int (nI (sp_cutl ilen i))])), (ica, .inl (cA 0, 651, .inl fi))] : va_W) = [(fo, .inr (5, [.ref wta, .ref soa, .ref rea, .int (nI cnt), .ref fb, .int fs, .ref ib])), (ib, .inr (0, [.ref ica, .int (nI (if jj < ilen then jj else ilen))])), (ica, .inl (cA 0, 651, .inl fi))] := by rw [e9_0]
      exact W.iret (v := nI ilen) hx hb hr (fun t9 ht9 hW9 => ⟨⟨nI ilen, (), rfl, (by first | exact sp_cut_a h0 | (rw [hi9]; exact (sp_cut_b (by omega) (by omega) h1).symm) | (rw [hi9]; exact (sp_cut_c (by omega) (by omega) h1).symm)), by rw [ht9, e9]; exact hP9, by rw [e9]; exact hD9⟩, hS.F ht9⟩) hS.2.2 dX5_cut_29
    · have c_2 : ¬ ((nI jj) ≤ (nI ilen)) := c_2
      have h1 : ¬ jj ≤ ilen := mt (nI_leI hjj (by omega)).mpr c_2
      refine lv_bipush (v := (-2)) hx hb dX5_cut_17 (by decide) ?_
      have hP9 := hP.sub (ws' := [(fo, .inr (5, [.ref wta, .ref soa, .ref rea, .int (nI cnt), .ref fb, .int fs, .ref ib])), (ib, .inr (0, [.ref ica, .int (nI ilen)])), (ica, .inl (cA 0, 651, .inl fi))]) [0, 1, 2] rfl
      have hD9 := hD.sub (ws' := [(fo, .inr (5, [.ref wta, .ref soa, .ref rea, .int (nI cnt), .ref fb, .int fs, .ref ib])), (ib, .inr (0, [.ref ica, .int (nI ilen)])), (ica, .inl (cA 0, 651, .inl fi))]) [0, 1, 2] (by decide) rfl
      have e9_0 : nI (sp_cutl ilen i) = nI ilen := (by first | rw [sp_cut_d h0] | rw [hi9, sp_cut_e (by omega) (by omega) h1] | rw [hi9, sp_cut_f (by omega) (by omega) h1])
      have e9 : ([(fo, .inr (5, [.ref wta, .ref soa, .ref rea, .int (nI cnt), .ref fb, .int fs, .ref ib])), (ib, .inr (0, [.ref ica, .int (nI (sp_cutl ilen i))])), (ica, .inl (cA 0, 651, .inl fi))] : va_W) = [(fo, .inr (5, [.ref wta, .ref soa, .ref rea, .int (nI cnt), .ref fb, .int fs, .ref ib])), (ib, .inr (0, [.ref ica, .int (nI ilen)])), (ica, .inl (cA 0, 651, .inl fi))] := by rw [e9_0]
      exact W.iret (v := (-2)) hx hb hr (fun t9 ht9 hW9 => ⟨⟨(-2), (), rfl, (by first | exact sp_cut_a h0 | (rw [hi9]; exact (sp_cut_b (by omega) (by omega) h1).symm) | (rw [hi9]; exact (sp_cut_c (by omega) (by omega) h1).symm)), by rw [ht9, e9]; exact hP9, by rw [e9]; exact hD9⟩, hS.F ht9⟩) hS.2.2 dX5_cut_19
set_option maxHeartbeats 4000000 in
set_option maxRecDepth 100000 in
theorem c_FountainRows_sign (l : Launch) (dC : Nat → ClassId) (dI : Nat → Nat → Nat) (cA : Nat → ClassId) (sz : Nat) (fo : Nat) (wta : Nat) (soa : Nat) (rea : Nat) (fb : Nat) (fca : Nat) (ib : Nat) (cnt : Nat) (flen : Nat) (fs : Int32) (ff : Nat → Int32) (hfl : flen ≤ 12) (hf2 : 0 ≤ fs → 2 ≤ flen) : Met l yX5_sign (kw_X5_sign) ({ frames := 3, cells := 0, slots := 0, locals := 67 }) (va_Pc [.ref fo] (fun U => kRW dC dI cA [(fo, .inr (5, [.ref wta, .ref soa, .ref rea, .int (nI cnt), .ref fb, .int fs, .ref ib])), (fb, .inr (0, [.ref fca, .int (nI flen)])), (fca, .inl (cA 0, 12, .inl ff))] sz U)) (va_Qi (fun r (u : Unit) => r = sp_signr fs flen ff) (fun (u : Unit) t => kB dC dI (va_A [(fo, .inr (5, [.ref wta, .ref soa, .ref rea, .int (nI cnt), .ref fb, .int fs, .ref ib])), (fb, .inr (0, [.ref fca, .int (nI flen)])), (fca, .inl (cA 0, 12, .inl ff))] sz) [(fo, .inr (5, [.ref wta, .ref soa, .ref rea, .int (nI cnt), .ref fb, .int fs, .ref ib])), (fb, .inr (0, [.ref fca, .int (nI ((sp_signf fs flen ff).2))])), (fca, .inl (cA 0, 12, .inl ((sp_signf fs flen ff).1)))] t) (va_A [(fo, .inr (5, [.ref wta, .ref soa, .ref rea, .int (nI cnt), .ref fb, .int fs, .ref ib])), (fb, .inr (0, [.ref fca, .int (nI flen)])), (fca, .inl (cA 0, 12, .inl ff))] sz)) 0 0 (va_A [(fo, .inr (5, [.ref wta, .ref soa, .ref rea, .int (nI cnt), .ref fb, .int fs, .ref ib])), (fb, .inr (0, [.ref fca, .int (nI flen)])), (fca, .inl (cA 0, 12, .inl ff))] sz) := by
  refine Met.ofW (cc := cX5_sign) (maxL := 3) (ret := (some .int)) (by decide) rfl ?_
  intro p e s m args below meth c s₁ B hml hv
  obtain ⟨rfl, hsz, hP, hK, hN, hD0⟩ := hv
  have hx := B.exec
  have hb := B.bytes
  have hr := B.returns
  have hts0 := atoms_spec (ws := (kw_X5_sign)) B.pre
  have hts : ∀ w ∈ TB, w.before _ s = true := fun w h => hts0 w (List.mem_cons_of_mem _ h)
  have hown : s.vm.findClass RX5 = some m.cls := findClass_of_methodNamed B.named
  have hlocks := B.notSynchronized
  subst hsz
  have hD := hD0.self (sz := s.heap.size)
  generalize hAe : va_A [(fo, .inr (5, [.ref wta, .ref soa, .ref rea, .int (nI cnt), .ref fb, .int fs, .ref ib])), (fb, .inr (0, [.ref fca, .int (nI flen)])), (fca, .inl (cA 0, 12, .inl ff))] s.heap.size = A at hD ⊢
  have hA : ∀ q : Nat, s.heap.size ≤ q → A q := fun q h => by rw [← hAe]; exact Or.inr h
  have hS : va_S A s.heap s.heap [] := va_S.rf
  have hk_0 := hts (.fieldLink RX5 47 "FountainRows" "frameSource" "I") tb_230
  have hk_1 := hts (.fieldLink RX5 43 "FountainRows" "frameBytes" "LFountainRows$Bytes;") tb_231
  have hk_2 : ∀ A9 : Array Value, (Cond.fieldLinkNest RX5 111 "FountainRows$Bytes" "length" "I" "FountainRows").before A9 s = true := fun _ => va_Nw.use rfl (hN.1 (RX5, 111, "FountainRows$Bytes", "length", "I", "FountainRows") (List.mem_of_getElem? (i := 0) rfl))
  have hl := lv_entry ([.ref fo]) (n := 3) (Nat.le_of_ble_eq_true rfl)
  rw [lg_entry_eq]
  generalize (lg_sl ([.ref fo]) ++ List.replicate (3 - (lg_sl ([.ref fo])).length) Slot.unset).toArray = ls at hl ⊢
  have hl : lv_has ls 3 [(0, .ref fo)] := hl
  refine lv_aload_n hx hb dX5_sign_0 rfl (lv_at hl 0 rfl) ?_
  refine va_get (D := (dC, dI)) (ci := 5) (v := .int fs) (C := RX5) (T := TX5) (N := 7) hx hb hts inX5 hown hK hP 0 rfl rfl 5 (by decide) hk_0 (fun _ h9 => h9) rfl dX5_sign_1 ?_
  refine lv_if_ge (tgt := 10) hx hb dX5_sign_4 (by decide) (fun c_1 => ?_) (fun c_1 => ?_)
  · have c_1 : 0 ≤ fs := c_1
    have h0 := c_1
    have h2 := hf2 h0
    refine lv_aload_n hx hb dX5_sign_10 rfl (lv_at hl 0 rfl) ?_
    refine va_get (D := (dC, dI)) (ci := 5) (v := .ref fb) (C := RX5) (T := TX5) (N := 7) hx hb hts inX5 hown hK hP 0 rfl rfl 4 (by decide) hk_1 (fun _ h9 => h9) rfl dX5_sign_11 ?_
    refine va_getN (D := (dC, dI)) (ci := 0) (v := .int (nI flen)) (C := RX0) (T := TX0) (N := 2) hx hb hts inX0 hown hK hP 1 rfl rfl 1 (by decide) (hk_2 _) (fun _ h9 => h9) rfl dX5_sign_14 ?_
    refine lv_iconst (v := 2) hx hb dX5_sign_17 (by decide) ?_
    refine lv_isub hx hb dX5_sign_18 ?_
    refine lv_istore_n (lv' := [(1, .int ((nI flen) - 2)), (0, .ref fo)]) hx hb dX5_sign_19 rfl hl (by decide) rfl (fun ls hl => ?_)
    have el_2 : nI flen - 2 = nI (flen - 2) := (pk_sub (a := flen) (b := 2) h2)
    rw [el_2] at hl
    refine lv_aload_n hx hb dX5_sign_20 rfl (lv_at hl 1 rfl) ?_
    refine va_get (D := (dC, dI)) (ci := 5) (v := .ref fb) (C := RX5) (T := TX5) (N := 7) hx hb hts inX5 hown hK hP 0 rfl rfl 4 (by decide) hk_1 (fun _ h9 => h9) rfl dX5_sign_21 ?_
    refine lv_iload_n hx hb dX5_sign_24 rfl (lv_at hl 0 rfl) ?_
    have hPc := hP.sub (ws' := [(fb, .inr (0, [.ref fca, .int (nI flen)])), (fca, .inl (cA 0, 12, .inl ff))]) [1, 2] rfl
    refine kq_csi (va_runV (As := [.int (nI (flen - 2))]) (rest := []) ⟨hx, hb, hml, hown, hts⟩ (c_Bytes_sumOfFirst l dC dI cA fb fca 12 flen ff (flen - 2) (by first | assumption | omega) (by first | assumption | omega) (by first | assumption | omega)) (cwV 1 hts (kg_V tb_235 tb_28 tb_29 tb_11 tb_26) rfl rfl rfl (by decide +kernel) ⟨Nat.le_of_ble_eq_true rfl, Nat.le_of_ble_eq_true rfl⟩) (kpv_ro hK hN hPc (ci := 0) (q0 := 0) rfl rfl rfl) rfl rfl hl.1 rfl (lv_room (Nat.le_of_ble_eq_true rfl)) dX5_sign_25 ⟨Nat.le_of_ble_eq_true rfl, Nat.le_of_ble_eq_true rfl⟩) (fun r_3 hr_3 => ?_)
    subst hr_3
    refine lv_istore_n (lv' := [(2, .int (sp_crc flen ff (flen - 2))), (1, .int (nI (flen - 2))), (0, .ref fo)]) hx hb dX5_sign_28 rfl hl (by decide) rfl (fun ls hl => ?_)
    refine lv_aload_n hx hb dX5_sign_29 rfl (lv_at hl 2 rfl) ?_
    refine va_get (D := (dC, dI)) (ci := 5) (v := .ref fb) (C := RX5) (T := TX5) (N := 7) hx hb hts inX5 hown hK hP 0 rfl rfl 4 (by decide) hk_1 (fun _ h9 => h9) rfl dX5_sign_30 ?_
    refine lv_iload_n hx hb dX5_sign_33 rfl (lv_at hl 1 rfl) ?_
    have hPc := hP.sub (ws' := [(fb, .inr (0, [.ref fca, .int (nI flen)])), (fca, .inl (cA 0, 12, .inl ff))]) [1, 2] rfl
    have hDc := hD.sub (ws' := [(fb, .inr (0, [.ref fca, .int (nI flen)])), (fca, .inl (cA 0, 12, .inl ff))]) [1, 2] (by decide) rfl
    have hFc := va_free (wc := [(fb, .inr (0, [.ref fca, .int (nI flen)])), (fca, .inl (cA 0, 12, .inl ff))]) hD hS hA [1, 2] rfl
    refine va_callv (va_runV (As := [.int (nI (flen - 2))]) (rest := []) ⟨hx, hb, hml, hown, hts⟩ (c_Bytes_shorten l dC dI cA s.heap.size fb fca 12 flen ff (flen - 2) (by first | assumption | omega) (by first | assumption | omega) (by first | assumption | omega)) (cwV 1 hts (kg_V tb_234 tb_191 tb_192 tb_11 tb_189) rfl rfl rfl (by decide +kernel) ⟨Nat.le_of_ble_eq_true rfl, Nat.le_of_ble_eq_true rfl⟩) (kpv_rw hK hN hPc hDc (ci := 0) (q0 := 0) rfl rfl rfl) rfl rfl hl.1 rfl (lv_room (Nat.le_of_ble_eq_true rfl)) dX5_sign_34 ⟨Nat.le_of_ble_eq_true rfl, Nat.le_of_ble_eq_true rfl⟩) hS (fun q _ h => hFc q h) hFc (fun u9 t9 H1 locs ht9 hvm9 hr_4 hB hz1 hk1 hS => ?_)
    obtain ⟨hP1, hD1⟩ := hB
    rw [ht9] at hP1
    obtain ⟨hP, hD⟩ := va_join (wr := [(fo, .inr (5, [.ref wta, .ref soa, .ref rea, .int (nI cnt), .ref fb, .int fs, .ref ib]))]) (w1 := [(fb, .inr (0, [.ref fca, .int (nI (if (flen - 2) < flen then (flen - 2) else flen))])), (fca, .inl (cA 0, 12, .inl ff))]) hP hD [1, 2] [0] rfl rfl (by decide) (by decide) hk1 hFc hP1 hD1
    generalize H1 = H at hP hS ⊢
    have hP : va_P (dC, dI) vwCl [(fo, .inr (5, [.ref wta, .ref soa, .ref rea, .int (nI cnt), .ref fb, .int fs, .ref ib])), (fb, .inr (0, [.ref fca, .int (nI (if (flen - 2) < flen then (flen - 2) else flen))])), (fca, .inl (cA 0, 12, .inl ff))] H := hP
    have hD : va_D A [(fo, .inr (5, [.ref wta, .ref soa, .ref rea, .int (nI cnt), .ref fb, .int fs, .ref ib])), (fb, .inr (0, [.ref fca, .int (nI (if (flen - 2) < flen then (flen - 2) else flen))])), (fca, .inl (cA 0, 12, .inl ff))] := hD
    have ef9 : nI (if (flen - 2) < flen then (flen - 2) else flen) = nI (flen - 2) := (by rw [if_pos (by omega)])
    rw [ef9] at hP hD
    have hP : va_P (dC, dI) vwCl [(fo, .inr (5, [.ref wta, .ref soa, .ref rea, .int (nI cnt), .ref fb, .int fs, .ref ib])), (fb, .inr (0, [.ref fca, .int (nI (flen - 2))])), (fca, .inl (cA 0, 12, .inl ff))] H := hP
    have hD : va_D A [(fo, .inr (5, [.ref wta, .ref soa, .ref rea, .int (nI cnt), .ref fb, .int fs, .ref ib])), (fb, .inr (0, [.ref fca, .int (nI (flen - 2))])), (fca, .inl (cA 0, 12, .inl ff))] := hD
    refine lv_aload_n hx hb dX5_sign_37 rfl (lv_at hl 2 rfl) ?_
    refine va_get (D := (dC, dI)) (ci := 5) (v := .ref fb) (C := RX5) (T := TX5) (N := 7) hx hb hts inX5 hown hK hP 0 rfl rfl 4 (by decide) hk_1 (fun _ h9 => h9) rfl dX5_sign_38 ?_
    refine lv_iload_n hx hb dX5_sign_41 rfl (lv_at hl 0 rfl) ?_
    refine lv_i2l (v := (sp_crc flen ff (flen - 2)).toInt64) hx hb dX5_sign_42 rfl ?_
    refine lv_iconst (v := 2) hx hb dX5_sign_43 (by decide) ?_
    have hPc := hP.sub (ws' := [(fb, .inr (0, [.ref fca, .int (nI (flen - 2))])), (fca, .inl (cA 0, 12, .inl ff))]) [1, 2] rfl
    have hDc := hD.sub (ws' := [(fb, .inr (0, [.ref fca, .int (nI (flen - 2))])), (fca, .inl (cA 0, 12, .inl ff))]) [1, 2] (by decide) rfl
    have hFc := va_free (wc := [(fb, .inr (0, [.ref fca, .int (nI (flen - 2))])), (fca, .inl (cA 0, 12, .inl ff))]) hD hS hA [1, 2] rfl
    refine va_callv (va_runV (As := [.long ((sp_crc flen ff (flen - 2)).toInt64), .int (nI 2)]) (rest := []) ⟨hx, hb, hml, hown, hts⟩ (c_Bytes_append l dC dI cA H.size fb fca 12 (flen - 2) ff ((sp_crc flen ff (flen - 2)).toInt64) 2 (by first | assumption | omega) (by first | assumption | omega) (by first | assumption | omega)) (cwV 2 hts (kg_V tb_236 tb_195 tb_196 tb_11 tb_193) rfl rfl rfl (by decide +kernel) ⟨Nat.le_of_ble_eq_true rfl, Nat.le_of_ble_eq_true rfl⟩) (kpv_rw hK hN hPc hDc (ci := 0) (q0 := 0) rfl rfl rfl) rfl rfl hl.1 rfl (lv_room (Nat.le_of_ble_eq_true rfl)) dX5_sign_44 ⟨Nat.le_of_ble_eq_true rfl, Nat.le_of_ble_eq_true rfl⟩) hS (fun q _ h => hFc q h) hFc (fun u9 t9 H1 locs ht9 hvm9 hr_5 hB hz1 hk1 hS => ?_)
    obtain ⟨hP1, hD1⟩ := hB
    rw [ht9] at hP1
    obtain ⟨hP, hD⟩ := va_join (wr := [(fo, .inr (5, [.ref wta, .ref soa, .ref rea, .int (nI cnt), .ref fb, .int fs, .ref ib]))]) (w1 := [(fb, .inr (0, [.ref fca, .int (nI ((sp_app 12 ((sp_crc flen ff (flen - 2)).toInt64) 2 ff (flen - 2)).2))])), (fca, .inl (cA 0, 12, .inl ((sp_app 12 ((sp_crc flen ff (flen - 2)).toInt64) 2 ff (flen - 2)).1)))]) hP hD [1, 2] [0] rfl rfl (by decide) (by decide) hk1 hFc hP1 hD1
    generalize H1 = H at hP hS ⊢
    have hP : va_P (dC, dI) vwCl [(fo, .inr (5, [.ref wta, .ref soa, .ref rea, .int (nI cnt), .ref fb, .int fs, .ref ib])), (fb, .inr (0, [.ref fca, .int (nI ((sp_app 12 ((sp_crc flen ff (flen - 2)).toInt64) 2 ff (flen - 2)).2))])), (fca, .inl (cA 0, 12, .inl ((sp_app 12 ((sp_crc flen ff (flen - 2)).toInt64) 2 ff (flen - 2)).1)))] H := hP
    have hD : va_D A [(fo, .inr (5, [.ref wta, .ref soa, .ref rea, .int (nI cnt), .ref fb, .int fs, .ref ib])), (fb, .inr (0, [.ref fca, .int (nI ((sp_app 12 ((sp_crc flen ff (flen - 2)).toInt64) 2 ff (flen - 2)).2))])), (fca, .inl (cA 0, 12, .inl ((sp_app 12 ((sp_crc flen ff (flen - 2)).toInt64) 2 ff (flen - 2)).1)))] := hD
    obtain ⟨Ba, hBa⟩ : ∃ z, z = sp_app 12 ((sp_crc flen ff (flen - 2)).toInt64) 2 ff (flen - 2) := ⟨_, rfl⟩
    rw [← hBa] at hP hD
    have hBa2 : Ba.2 ≤ 12 := by rw [hBa]; exact sp_app_le _ _ _ _ _ (by first | assumption | omega)
    have hP : va_P (dC, dI) vwCl [(fo, .inr (5, [.ref wta, .ref soa, .ref rea, .int (nI cnt), .ref fb, .int fs, .ref ib])), (fb, .inr (0, [.ref fca, .int (nI Ba.2)])), (fca, .inl (cA 0, 12, .inl Ba.1))] H := hP
    have hD : va_D A [(fo, .inr (5, [.ref wta, .ref soa, .ref rea, .int (nI cnt), .ref fb, .int fs, .ref ib])), (fb, .inr (0, [.ref fca, .int (nI Ba.2)])), (fca, .inl (cA 0, 12, .inl Ba.1))] := hD
    refine lv_iload_n hx hb dX5_sign_47 rfl (lv_at hl 0 rfl) ?_
    have hP9 := hP.sub (ws' := [(fo, .inr (5, [.ref wta, .ref soa, .ref rea, .int (nI cnt), .ref fb, .int fs, .ref ib])), (fb, .inr (0, [.ref fca, .int (nI Ba.2)])), (fca, .inl (cA 0, 12, .inl Ba.1))]) [0, 1, 2] rfl
    have hD9 := hD.sub (ws' := [(fo, .inr (5, [.ref wta, .ref soa, .ref rea, .int (nI cnt), .ref fb, .int fs, .ref ib])), (fb, .inr (0, [.ref fca, .int (nI Ba.2)])), (fca, .inl (cA 0, 12, .inl Ba.1))]) [0, 1, 2] (by decide) rfl
    have e9_0 : nI ((sp_signf fs flen ff).2) = nI Ba.2 := (by unfold sp_signf; first | rw [if_neg h0] | (rw [if_pos h0, hBa] <;> rfl))
    have e9_1 : (sp_signf fs flen ff).1 = Ba.1 := (by unfold sp_signf; first | rw [if_neg h0] | (rw [if_pos h0, hBa] <;> rfl))
    have e9 : ([(fo, .inr (5, [.ref wta, .ref soa, .ref rea, .int (nI cnt), .ref fb, .int fs, .ref ib])), (fb, .inr (0, [.ref fca, .int (nI ((sp_signf fs flen ff).2))])), (fca, .inl (cA 0, 12, .inl ((sp_signf fs flen ff).1)))] : va_W) = [(fo, .inr (5, [.ref wta, .ref soa, .ref rea, .int (nI cnt), .ref fb, .int fs, .ref ib])), (fb, .inr (0, [.ref fca, .int (nI Ba.2)])), (fca, .inl (cA 0, 12, .inl Ba.1))] := by rw [e9_0, e9_1]
    exact W.iret (v := sp_crc flen ff (flen - 2)) hx hb hr (fun t9 ht9 hW9 => ⟨⟨sp_crc flen ff (flen - 2), (), rfl, (by unfold sp_signr; rw [if_pos h0]), by rw [ht9, e9]; exact hP9, by rw [e9]; exact hD9⟩, hS.F ht9⟩) hS.2.2 dX5_sign_48
  · have c_1 : ¬ (0 ≤ fs) := c_1
    have h0 := c_1
    refine lv_bipush (v := (-3)) hx hb dX5_sign_7 (by decide) ?_
    have hP9 := hP.sub (ws' := [(fo, .inr (5, [.ref wta, .ref soa, .ref rea, .int (nI cnt), .ref fb, .int fs, .ref ib])), (fb, .inr (0, [.ref fca, .int (nI flen)])), (fca, .inl (cA 0, 12, .inl ff))]) [0, 1, 2] rfl
    have hD9 := hD.sub (ws' := [(fo, .inr (5, [.ref wta, .ref soa, .ref rea, .int (nI cnt), .ref fb, .int fs, .ref ib])), (fb, .inr (0, [.ref fca, .int (nI flen)])), (fca, .inl (cA 0, 12, .inl ff))]) [0, 1, 2] (by decide) rfl
    have e9_0 : nI ((sp_signf fs flen ff).2) = nI flen := (by unfold sp_signf; first | rw [if_neg h0] | (rw [if_pos h0, hBa] <;> rfl))
    have e9_1 : (sp_signf fs flen ff).1 = ff := (by unfold sp_signf; first | rw [if_neg h0] | (rw [if_pos h0, hBa] <;> rfl))
    have e9 : ([(fo, .inr (5, [.ref wta, .ref soa, .ref rea, .int (nI cnt), .ref fb, .int fs, .ref ib])), (fb, .inr (0, [.ref fca, .int (nI ((sp_signf fs flen ff).2))])), (fca, .inl (cA 0, 12, .inl ((sp_signf fs flen ff).1)))] : va_W) = [(fo, .inr (5, [.ref wta, .ref soa, .ref rea, .int (nI cnt), .ref fb, .int fs, .ref ib])), (fb, .inr (0, [.ref fca, .int (nI flen)])), (fca, .inl (cA 0, 12, .inl ff))] := by rw [e9_0, e9_1]
    exact W.iret (v := (-3)) hx hb hr (fun t9 ht9 hW9 => ⟨⟨(-3), (), rfl, (by unfold sp_signr; rw [if_neg h0]), by rw [ht9, e9]; exact hP9, by rw [e9]; exact hD9⟩, hS.F ht9⟩) hS.2.2 dX5_sign_9
set_option maxHeartbeats 4000000 in
set_option maxRecDepth 100000 in
theorem c_F_row_no (l : Launch) (dC : Nat → ClassId) (dI : Nat → Nat → Nat) (cA : Nat → ClassId) (fo : Nat) (wta : Nat) (soa : Nat) (rea : Nat) (fb : Nat) (ib : Nat) (cnt : Nat) (fs : Int32) (fS : Nat → Option Nat) (x : Int32) (y : Int32) (hcnt : cnt ≤ 4) (hno : sp_has cnt x = 0) : Met l yX5_row (kw_X5_row) ({ frames := 1, cells := 0, slots := 0, locals := 21 }) (va_Pc [.ref fo, .int x, .int y] (fun U => kRO dC dI cA [(fo, .inr (5, [.ref wta, .ref soa, .ref rea, .int (nI cnt), .ref fb, .int fs, .ref ib])), (soa, .inl (cA 2, 4, .inr (.inr (.inr (.inr fS)))))] U)) (vp_Sl (fun r => r = (-1))) 0 0 (fun _ => False) := by
  refine Met.ofW (cc := cX5_row) (maxL := 4) (ret := (some .long)) (by decide) rfl ?_
  intro p e s m args below meth c s₁ B hml hv
  obtain ⟨rfl, hP, hK, hN⟩ := hv
  have hx := B.exec
  have hb := B.bytes
  have hr := B.returns
  have hts0 := atoms_spec (ws := (kw_X5_row)) B.pre
  have hts : ∀ w ∈ TB, w.before _ s = true := fun w h => hts0 w (List.mem_cons_of_mem _ h)
  have hown : s.vm.findClass RX5 = some m.cls := findClass_of_methodNamed B.named
  have hlocks := B.notSynchronized
  have hk_0 := hts (.constantLong RX5 75 (-1)) tb_241
  have hl := lv_entry ([.ref fo, .int x, .int y]) (n := 4) (Nat.le_of_ble_eq_true rfl)
  rw [lg_entry_eq]
  generalize (lg_sl ([.ref fo, .int x, .int y]) ++ List.replicate (4 - (lg_sl ([.ref fo, .int x, .int y])).length) Slot.unset).toArray = ls at hl ⊢
  have hl : lv_has ls 4 [(0, .ref fo), (1, .int x), (2, .int y)] := hl
  refine lv_aload_n hx hb dX5_row_0 rfl (lv_at hl 0 rfl) ?_
  refine lv_iload_n hx hb dX5_row_1 rfl (lv_at hl 1 rfl) ?_
  have hPc := hP.sub (ws' := [(fo, .inr (5, [.ref wta, .ref soa, .ref rea, .int (nI cnt), .ref fb, .int fs, .ref ib])), (soa, .inl (cA 2, 4, .inr (.inr (.inr (.inr fS)))))]) [0, 1] rfl
  refine kq_csq (va_runV (As := [.int x]) (rest := []) ⟨hx, hb, hml, hown, hts⟩ (c_FountainRows_sourceAt l dC dI cA fo wta soa rea fb ib cnt fs fS x (by first | assumption | omega)) (cwV 1 hts (kg_V tb_238 tb_239 tb_240 tb_54 tb_237) rfl rfl rfl (by decide +kernel) ⟨Nat.le_of_ble_eq_true rfl, Nat.le_of_ble_eq_true rfl⟩) (kpv_ro hK hN hPc (ci := 5) (q0 := 0) rfl rfl rfl) rfl rfl hl.1 rfl (lv_room (Nat.le_of_ble_eq_true rfl)) dX5_row_2 ⟨Nat.le_of_ble_eq_true rfl, Nat.le_of_ble_eq_true rfl⟩) (fun r_1 hr_1 => ?_)
  have hr_1 : r_1 = none := hr_1.trans (sp_sat_no hno)
  subst hr_1
  refine W.eq (g2 := F0 m 5 ls [.null]) rfl ?_
  refine lv_astore_nN (lv' := [(3, .null), (0, .ref fo), (1, .int x), (2, .int y)]) hx hb dX5_row_5 rfl hl (by decide) rfl (fun ls hl => ?_)
  refine lv_aload_nN hx hb dX5_row_6 rfl (lv_at hl 0 rfl) ?_
  refine lv_ifnonnullN hx hb dX5_row_7 ?_
  refine lv_ldc2 (v := (-1)) hx hb hown hk_0 dX5_row_10 ?_
  exact W.lret (v := (-1)) hx hb hr (fun t9 ht9 hW9 => ⟨(-1), rfl, rfl, ht9⟩) (fun _ h => absurd h List.not_mem_nil) dX5_row_13
set_option maxHeartbeats 4000000 in
set_option maxRecDepth 100000 in
theorem c_F_sumRow_no (l : Launch) (dC : Nat → ClassId) (dI : Nat → Nat → Nat) (cA : Nat → ClassId) (fo : Nat) (wta : Nat) (soa : Nat) (rea : Nat) (fb : Nat) (ib : Nat) (cnt : Nat) (fs : Int32) (fS : Nat → Option Nat) (x : Int32) (y : Int32) (hcnt : cnt ≤ 4) (hno : sp_has cnt x = 0) : Met l yX5_sumRow (kw_X5_sumRow) ({ frames := 1, cells := 0, slots := 0, locals := 21 }) (va_Pc [.ref fo, .int x, .int y] (fun U => kRO dC dI cA [(fo, .inr (5, [.ref wta, .ref soa, .ref rea, .int (nI cnt), .ref fb, .int fs, .ref ib])), (soa, .inl (cA 2, 4, .inr (.inr (.inr (.inr fS)))))] U)) (vp_Sl (fun r => r = (-1))) 0 0 (fun _ => False) := by
  refine Met.ofW (cc := cX5_sumRow) (maxL := 4) (ret := (some .long)) (by decide) rfl ?_
  intro p e s m args below meth c s₁ B hml hv
  obtain ⟨rfl, hP, hK, hN⟩ := hv
  have hx := B.exec
  have hb := B.bytes
  have hr := B.returns
  have hts0 := atoms_spec (ws := (kw_X5_sumRow)) B.pre
  have hts : ∀ w ∈ TB, w.before _ s = true := fun w h => hts0 w (List.mem_cons_of_mem _ h)
  have hown : s.vm.findClass RX5 = some m.cls := findClass_of_methodNamed B.named
  have hlocks := B.notSynchronized
  have hk_0 := hts (.constantLong RX5 75 (-1)) tb_241
  have hl := lv_entry ([.ref fo, .int x, .int y]) (n := 4) (Nat.le_of_ble_eq_true rfl)
  rw [lg_entry_eq]
  generalize (lg_sl ([.ref fo, .int x, .int y]) ++ List.replicate (4 - (lg_sl ([.ref fo, .int x, .int y])).length) Slot.unset).toArray = ls at hl ⊢
  have hl : lv_has ls 4 [(0, .ref fo), (1, .int x), (2, .int y)] := hl
  refine lv_aload_n hx hb dX5_sumRow_0 rfl (lv_at hl 0 rfl) ?_
  refine lv_iload_n hx hb dX5_sumRow_1 rfl (lv_at hl 1 rfl) ?_
  have hPc := hP.sub (ws' := [(fo, .inr (5, [.ref wta, .ref soa, .ref rea, .int (nI cnt), .ref fb, .int fs, .ref ib])), (soa, .inl (cA 2, 4, .inr (.inr (.inr (.inr fS)))))]) [0, 1] rfl
  refine kq_csq (va_runV (As := [.int x]) (rest := []) ⟨hx, hb, hml, hown, hts⟩ (c_FountainRows_sourceAt l dC dI cA fo wta soa rea fb ib cnt fs fS x (by first | assumption | omega)) (cwV 1 hts (kg_V tb_238 tb_239 tb_240 tb_54 tb_237) rfl rfl rfl (by decide +kernel) ⟨Nat.le_of_ble_eq_true rfl, Nat.le_of_ble_eq_true rfl⟩) (kpv_ro hK hN hPc (ci := 5) (q0 := 0) rfl rfl rfl) rfl rfl hl.1 rfl (lv_room (Nat.le_of_ble_eq_true rfl)) dX5_sumRow_2 ⟨Nat.le_of_ble_eq_true rfl, Nat.le_of_ble_eq_true rfl⟩) (fun r_1 hr_1 => ?_)
  have hr_1 : r_1 = none := hr_1.trans (sp_sat_no hno)
  subst hr_1
  refine W.eq (g2 := F0 m 5 ls [.null]) rfl ?_
  refine lv_astore_nN (lv' := [(3, .null), (0, .ref fo), (1, .int x), (2, .int y)]) hx hb dX5_sumRow_5 rfl hl (by decide) rfl (fun ls hl => ?_)
  refine lv_aload_nN hx hb dX5_sumRow_6 rfl (lv_at hl 0 rfl) ?_
  refine lv_ifnullN (tgt := 26) hx hb dX5_sumRow_7 (by decide) ?_
  refine lv_ldc2 (v := (-1)) hx hb hown hk_0 dX5_sumRow_26 ?_
  exact W.lret (v := (-1)) hx hb hr (fun t9 ht9 hW9 => ⟨(-1), rfl, rfl, ht9⟩) (fun _ h => absurd h List.not_mem_nil) dX5_sumRow_29
set_option maxHeartbeats 4000000 in
set_option maxRecDepth 100000 in
theorem c_F_part_no (l : Launch) (dC : Nat → ClassId) (dI : Nat → Nat → Nat) (cA : Nat → ClassId) (fo : Nat) (wta : Nat) (soa : Nat) (rea : Nat) (fb : Nat) (ib : Nat) (cnt : Nat) (fs : Int32) (fS : Nat → Option Nat) (x : Int32) (y : Int32) (hcnt : cnt ≤ 4) (hno : sp_has cnt x = 0) : Met l yX5_part (kw_X5_part) ({ frames := 1, cells := 0, slots := 0, locals := 21 }) (va_Pc [.ref fo, .int x, .int y] (fun U => kRO dC dI cA [(fo, .inr (5, [.ref wta, .ref soa, .ref rea, .int (nI cnt), .ref fb, .int fs, .ref ib])), (soa, .inl (cA 2, 4, .inr (.inr (.inr (.inr fS)))))] U)) (vp_Sl (fun r => r = 0)) 0 0 (fun _ => False) := by
  refine Met.ofW (cc := cX5_part) (maxL := 4) (ret := (some .long)) (by decide) rfl ?_
  intro p e s m args below meth c s₁ B hml hv
  obtain ⟨rfl, hP, hK, hN⟩ := hv
  have hx := B.exec
  have hb := B.bytes
  have hr := B.returns
  have hts0 := atoms_spec (ws := (kw_X5_part)) B.pre
  have hts : ∀ w ∈ TB, w.before _ s = true := fun w h => hts0 w (List.mem_cons_of_mem _ h)
  have hown : s.vm.findClass RX5 = some m.cls := findClass_of_methodNamed B.named
  have hlocks := B.notSynchronized
  have hl := lv_entry ([.ref fo, .int x, .int y]) (n := 4) (Nat.le_of_ble_eq_true rfl)
  rw [lg_entry_eq]
  generalize (lg_sl ([.ref fo, .int x, .int y]) ++ List.replicate (4 - (lg_sl ([.ref fo, .int x, .int y])).length) Slot.unset).toArray = ls at hl ⊢
  have hl : lv_has ls 4 [(0, .ref fo), (1, .int x), (2, .int y)] := hl
  refine lv_aload_n hx hb dX5_part_0 rfl (lv_at hl 0 rfl) ?_
  refine lv_iload_n hx hb dX5_part_1 rfl (lv_at hl 1 rfl) ?_
  have hPc := hP.sub (ws' := [(fo, .inr (5, [.ref wta, .ref soa, .ref rea, .int (nI cnt), .ref fb, .int fs, .ref ib])), (soa, .inl (cA 2, 4, .inr (.inr (.inr (.inr fS)))))]) [0, 1] rfl
  refine kq_csq (va_runV (As := [.int x]) (rest := []) ⟨hx, hb, hml, hown, hts⟩ (c_FountainRows_sourceAt l dC dI cA fo wta soa rea fb ib cnt fs fS x (by first | assumption | omega)) (cwV 1 hts (kg_V tb_238 tb_239 tb_240 tb_54 tb_237) rfl rfl rfl (by decide +kernel) ⟨Nat.le_of_ble_eq_true rfl, Nat.le_of_ble_eq_true rfl⟩) (kpv_ro hK hN hPc (ci := 5) (q0 := 0) rfl rfl rfl) rfl rfl hl.1 rfl (lv_room (Nat.le_of_ble_eq_true rfl)) dX5_part_2 ⟨Nat.le_of_ble_eq_true rfl, Nat.le_of_ble_eq_true rfl⟩) (fun r_1 hr_1 => ?_)
  have hr_1 : r_1 = none := hr_1.trans (sp_sat_no hno)
  subst hr_1
  refine W.eq (g2 := F0 m 5 ls [.null]) rfl ?_
  refine lv_astore_nN (lv' := [(3, .null), (0, .ref fo), (1, .int x), (2, .int y)]) hx hb dX5_part_5 rfl hl (by decide) rfl (fun ls hl => ?_)
  refine lv_aload_nN hx hb dX5_part_6 rfl (lv_at hl 0 rfl) ?_
  refine lv_ifnullN (tgt := 26) hx hb dX5_part_7 (by decide) ?_
  refine lv_lconst (v := 0) hx hb dX5_part_26 (by decide) ?_
  exact W.lret (v := 0) hx hb hr (fun t9 ht9 hW9 => ⟨0, rfl, rfl, ht9⟩) (fun _ h => absurd h List.not_mem_nil) dX5_part_27
set_option maxHeartbeats 4000000 in
set_option maxRecDepth 100000 in
theorem c_F_symbol_no (l : Launch) (dC : Nat → ClassId) (dI : Nat → Nat → Nat) (cA : Nat → ClassId) (fo : Nat) (wta : Nat) (soa : Nat) (rea : Nat) (fb : Nat) (ib : Nat) (cnt : Nat) (fs : Int32) (fS : Nat → Option Nat) (x : Int32) (y : Int32) (v : Int64) (hcnt : cnt ≤ 4) (hno : sp_has cnt x = 0) : Met l yX5_symbol (kw_X5_symbol) ({ frames := 1, cells := 0, slots := 0, locals := 21 }) (va_Pc [.ref fo, .int x, .int y, .long v] (fun U => kRO dC dI cA [(fo, .inr (5, [.ref wta, .ref soa, .ref rea, .int (nI cnt), .ref fb, .int fs, .ref ib])), (soa, .inl (cA 2, 4, .inr (.inr (.inr (.inr fS)))))] U)) (vp_Si (fun r => r = (-1))) 0 0 (fun _ => False) := by
  refine Met.ofW (cc := cX5_symbol) (maxL := 6) (ret := (some .int)) (by decide) rfl ?_
  intro p e s m args below meth c s₁ B hml hv
  obtain ⟨rfl, hP, hK, hN⟩ := hv
  have hx := B.exec
  have hb := B.bytes
  have hr := B.returns
  have hts0 := atoms_spec (ws := (kw_X5_symbol)) B.pre
  have hts : ∀ w ∈ TB, w.before _ s = true := fun w h => hts0 w (List.mem_cons_of_mem _ h)
  have hown : s.vm.findClass RX5 = some m.cls := findClass_of_methodNamed B.named
  have hlocks := B.notSynchronized
  have hl := lv_entry ([.ref fo, .int x, .int y, .long v]) (n := 6) (Nat.le_of_ble_eq_true rfl)
  rw [lg_entry_eq]
  generalize (lg_sl ([.ref fo, .int x, .int y, .long v]) ++ List.replicate (6 - (lg_sl ([.ref fo, .int x, .int y, .long v])).length) Slot.unset).toArray = ls at hl ⊢
  have hl : lv_has ls 6 [(0, .ref fo), (1, .int x), (2, .int y), (3, .long v)] := hl
  refine lv_aload_n hx hb dX5_symbol_0 rfl (lv_at hl 0 rfl) ?_
  refine lv_iload_n hx hb dX5_symbol_1 rfl (lv_at hl 1 rfl) ?_
  have hPc := hP.sub (ws' := [(fo, .inr (5, [.ref wta, .ref soa, .ref rea, .int (nI cnt), .ref fb, .int fs, .ref ib])), (soa, .inl (cA 2, 4, .inr (.inr (.inr (.inr fS)))))]) [0, 1] rfl
  refine kq_csq (va_runV (As := [.int x]) (rest := []) ⟨hx, hb, hml, hown, hts⟩ (c_FountainRows_sourceAt l dC dI cA fo wta soa rea fb ib cnt fs fS x (by first | assumption | omega)) (cwV 1 hts (kg_V tb_238 tb_239 tb_240 tb_54 tb_237) rfl rfl rfl (by decide +kernel) ⟨Nat.le_of_ble_eq_true rfl, Nat.le_of_ble_eq_true rfl⟩) (kpv_ro hK hN hPc (ci := 5) (q0 := 0) rfl rfl rfl) rfl rfl hl.1 rfl (lv_room (Nat.le_of_ble_eq_true rfl)) dX5_symbol_2 ⟨Nat.le_of_ble_eq_true rfl, Nat.le_of_ble_eq_true rfl⟩) (fun r_1 hr_1 => ?_)
  have hr_1 : r_1 = none := hr_1.trans (sp_sat_no hno)
  subst hr_1
  refine W.eq (g2 := F0 m 5 ls [.null]) rfl ?_
  refine lv_astoreN (lv' := [(5, .null), (0, .ref fo), (1, .int x), (2, .int y), (3, .long v)]) hx hb dX5_symbol_5 hl (by decide) rfl (fun ls hl => ?_)
  refine lv_aloadN hx hb dX5_symbol_7 (lv_at hl 0 rfl) ?_
  refine lv_ifnullN (tgt := 21) hx hb dX5_symbol_9 (by decide) ?_
  refine lv_iconst (v := (-1)) hx hb dX5_symbol_21 (by decide) ?_
  exact W.iret (v := (-1)) hx hb hr (fun t9 ht9 hW9 => ⟨(-1), rfl, rfl, ht9⟩) (fun _ h => absurd h List.not_mem_nil) dX5_symbol_22
set_option maxHeartbeats 4000000 in
set_option maxRecDepth 100000 in
theorem c_F_frame_no (l : Launch) (dC : Nat → ClassId) (dI : Nat → Nat → Nat) (cA : Nat → ClassId) (fo : Nat) (wta : Nat) (soa : Nat) (rea : Nat) (fb : Nat) (ib : Nat) (cnt : Nat) (fs : Int32) (fS : Nat → Option Nat) (x : Int32) (y : Int32) (hcnt : cnt ≤ 4) (hno : sp_has cnt x = 0) : Met l yX5_frame (kw_X5_frame) ({ frames := 1, cells := 0, slots := 0, locals := 21 }) (va_Pc [.ref fo, .int x, .int y] (fun U => kRO dC dI cA [(fo, .inr (5, [.ref wta, .ref soa, .ref rea, .int (nI cnt), .ref fb, .int fs, .ref ib])), (soa, .inl (cA 2, 4, .inr (.inr (.inr (.inr fS)))))] U)) (vp_Si (fun r => r = (-1))) 0 0 (fun _ => False) := by
  refine Met.ofW (cc := cX5_frame) (maxL := 4) (ret := (some .int)) (by decide) rfl ?_
  intro p e s m args below meth c s₁ B hml hv
  obtain ⟨rfl, hP, hK, hN⟩ := hv
  have hx := B.exec
  have hb := B.bytes
  have hr := B.returns
  have hts0 := atoms_spec (ws := (kw_X5_frame)) B.pre
  have hts : ∀ w ∈ TB, w.before _ s = true := fun w h => hts0 w (List.mem_cons_of_mem _ h)
  have hown : s.vm.findClass RX5 = some m.cls := findClass_of_methodNamed B.named
  have hlocks := B.notSynchronized
  have hl := lv_entry ([.ref fo, .int x, .int y]) (n := 4) (Nat.le_of_ble_eq_true rfl)
  rw [lg_entry_eq]
  generalize (lg_sl ([.ref fo, .int x, .int y]) ++ List.replicate (4 - (lg_sl ([.ref fo, .int x, .int y])).length) Slot.unset).toArray = ls at hl ⊢
  have hl : lv_has ls 4 [(0, .ref fo), (1, .int x), (2, .int y)] := hl
  refine lv_aload_n hx hb dX5_frame_0 rfl (lv_at hl 0 rfl) ?_
  refine lv_iload_n hx hb dX5_frame_1 rfl (lv_at hl 1 rfl) ?_
  have hPc := hP.sub (ws' := [(fo, .inr (5, [.ref wta, .ref soa, .ref rea, .int (nI cnt), .ref fb, .int fs, .ref ib])), (soa, .inl (cA 2, 4, .inr (.inr (.inr (.inr fS)))))]) [0, 1] rfl
  refine kq_csq (va_runV (As := [.int x]) (rest := []) ⟨hx, hb, hml, hown, hts⟩ (c_FountainRows_sourceAt l dC dI cA fo wta soa rea fb ib cnt fs fS x (by first | assumption | omega)) (cwV 1 hts (kg_V tb_238 tb_239 tb_240 tb_54 tb_237) rfl rfl rfl (by decide +kernel) ⟨Nat.le_of_ble_eq_true rfl, Nat.le_of_ble_eq_true rfl⟩) (kpv_ro hK hN hPc (ci := 5) (q0 := 0) rfl rfl rfl) rfl rfl hl.1 rfl (lv_room (Nat.le_of_ble_eq_true rfl)) dX5_frame_2 ⟨Nat.le_of_ble_eq_true rfl, Nat.le_of_ble_eq_true rfl⟩) (fun r_1 hr_1 => ?_)
  have hr_1 : r_1 = none := hr_1.trans (sp_sat_no hno)
  subst hr_1
  refine W.eq (g2 := F0 m 5 ls [.null]) rfl ?_
  refine lv_astore_nN (lv' := [(3, .null), (0, .ref fo), (1, .int x), (2, .int y)]) hx hb dX5_frame_5 rfl hl (by decide) rfl (fun ls hl => ?_)
  refine lv_aload_nN hx hb dX5_frame_6 rfl (lv_at hl 0 rfl) ?_
  refine lv_ifnonnullN hx hb dX5_frame_7 ?_
  refine lv_iconst (v := (-1)) hx hb dX5_frame_10 (by decide) ?_
  exact W.iret (v := (-1)) hx hb hr (fun t9 ht9 hW9 => ⟨(-1), rfl, rfl, ht9⟩) (fun _ h => absurd h List.not_mem_nil) dX5_frame_11
set_option maxHeartbeats 4000000 in
set_option maxRecDepth 100000 in
theorem c_F_told_no (l : Launch) (dC : Nat → ClassId) (dI : Nat → Nat → Nat) (cA : Nat → ClassId) (fo : Nat) (wta : Nat) (soa : Nat) (rea : Nat) (fb : Nat) (ib : Nat) (cnt : Nat) (fs : Int32) (fR : Nat → Option Nat) (x : Int32) (y : Int32) (hcnt : cnt ≤ 4) (hno : sp_has cnt x = 0) : Met l yX5_told (kw_X5_told) ({ frames := 1, cells := 0, slots := 0, locals := 21 }) (va_Pc [.ref fo, .int x, .int y] (fun U => kRO dC dI cA [(fo, .inr (5, [.ref wta, .ref soa, .ref rea, .int (nI cnt), .ref fb, .int fs, .ref ib])), (rea, .inl (cA 3, 4, .inr (.inr (.inr (.inr fR)))))] U)) (vp_Si (fun r => r = (-1))) 0 0 (fun _ => False) := by
  refine Met.ofW (cc := cX5_told) (maxL := 4) (ret := (some .int)) (by decide) rfl ?_
  intro p e s m args below meth c s₁ B hml hv
  obtain ⟨rfl, hP, hK, hN⟩ := hv
  have hx := B.exec
  have hb := B.bytes
  have hr := B.returns
  have hts0 := atoms_spec (ws := (kw_X5_told)) B.pre
  have hts : ∀ w ∈ TB, w.before _ s = true := fun w h => hts0 w (List.mem_cons_of_mem _ h)
  have hown : s.vm.findClass RX5 = some m.cls := findClass_of_methodNamed B.named
  have hlocks := B.notSynchronized
  have hl := lv_entry ([.ref fo, .int x, .int y]) (n := 4) (Nat.le_of_ble_eq_true rfl)
  rw [lg_entry_eq]
  generalize (lg_sl ([.ref fo, .int x, .int y]) ++ List.replicate (4 - (lg_sl ([.ref fo, .int x, .int y])).length) Slot.unset).toArray = ls at hl ⊢
  have hl : lv_has ls 4 [(0, .ref fo), (1, .int x), (2, .int y)] := hl
  refine lv_aload_n hx hb dX5_told_0 rfl (lv_at hl 0 rfl) ?_
  refine lv_iload_n hx hb dX5_told_1 rfl (lv_at hl 1 rfl) ?_
  have hPc := hP.sub (ws' := [(fo, .inr (5, [.ref wta, .ref soa, .ref rea, .int (nI cnt), .ref fb, .int fs, .ref ib])), (rea, .inl (cA 3, 4, .inr (.inr (.inr (.inr fR)))))]) [0, 1] rfl
  refine kq_csq (va_runV (As := [.int x]) (rest := []) ⟨hx, hb, hml, hown, hts⟩ (c_FountainRows_receiverAt l dC dI cA fo wta soa rea fb ib cnt fs fR x (by first | assumption | omega)) (cwV 1 hts (kg_V tb_243 tb_244 tb_245 tb_54 tb_242) rfl rfl rfl (by decide +kernel) ⟨Nat.le_of_ble_eq_true rfl, Nat.le_of_ble_eq_true rfl⟩) (kpv_ro hK hN hPc (ci := 5) (q0 := 0) rfl rfl rfl) rfl rfl hl.1 rfl (lv_room (Nat.le_of_ble_eq_true rfl)) dX5_told_2 ⟨Nat.le_of_ble_eq_true rfl, Nat.le_of_ble_eq_true rfl⟩) (fun r_1 hr_1 => ?_)
  have hr_1 : r_1 = none := hr_1.trans (sp_sat_no hno)
  subst hr_1
  refine W.eq (g2 := F0 m 5 ls [.null]) rfl ?_
  refine lv_astore_nN (lv' := [(3, .null), (0, .ref fo), (1, .int x), (2, .int y)]) hx hb dX5_told_5 rfl hl (by decide) rfl (fun ls hl => ?_)
  refine lv_aload_nN hx hb dX5_told_6 rfl (lv_at hl 0 rfl) ?_
  refine lv_ifnonnullN hx hb dX5_told_7 ?_
  refine lv_iconst (v := (-1)) hx hb dX5_told_10 (by decide) ?_
  refine lv_goto (tgt := 19) hx hb dX5_told_11 (by decide) ?_
  exact W.iret (v := (-1)) hx hb hr (fun t9 ht9 hW9 => ⟨(-1), rfl, rfl, ht9⟩) (fun _ h => absurd h List.not_mem_nil) dX5_told_19
set_option maxHeartbeats 4000000 in
set_option maxRecDepth 100000 in
theorem c_F_taken_no (l : Launch) (dC : Nat → ClassId) (dI : Nat → Nat → Nat) (cA : Nat → ClassId) (fo : Nat) (wta : Nat) (soa : Nat) (rea : Nat) (fb : Nat) (ib : Nat) (cnt : Nat) (fs : Int32) (fR : Nat → Option Nat) (x : Int32) (y : Int32) (hcnt : cnt ≤ 4) (hno : sp_has cnt x = 0) : Met l yX5_taken (kw_X5_taken) ({ frames := 1, cells := 0, slots := 0, locals := 21 }) (va_Pc [.ref fo, .int x, .int y] (fun U => kRO dC dI cA [(fo, .inr (5, [.ref wta, .ref soa, .ref rea, .int (nI cnt), .ref fb, .int fs, .ref ib])), (rea, .inl (cA 3, 4, .inr (.inr (.inr (.inr fR)))))] U)) (vp_Si (fun r => r = (-1))) 0 0 (fun _ => False) := by
  refine Met.ofW (cc := cX5_taken) (maxL := 4) (ret := (some .int)) (by decide) rfl ?_
  intro p e s m args below meth c s₁ B hml hv
  obtain ⟨rfl, hP, hK, hN⟩ := hv
  have hx := B.exec
  have hb := B.bytes
  have hr := B.returns
  have hts0 := atoms_spec (ws := (kw_X5_taken)) B.pre
  have hts : ∀ w ∈ TB, w.before _ s = true := fun w h => hts0 w (List.mem_cons_of_mem _ h)
  have hown : s.vm.findClass RX5 = some m.cls := findClass_of_methodNamed B.named
  have hlocks := B.notSynchronized
  have hl := lv_entry ([.ref fo, .int x, .int y]) (n := 4) (Nat.le_of_ble_eq_true rfl)
  rw [lg_entry_eq]
  generalize (lg_sl ([.ref fo, .int x, .int y]) ++ List.replicate (4 - (lg_sl ([.ref fo, .int x, .int y])).length) Slot.unset).toArray = ls at hl ⊢
  have hl : lv_has ls 4 [(0, .ref fo), (1, .int x), (2, .int y)] := hl
  refine lv_aload_n hx hb dX5_taken_0 rfl (lv_at hl 0 rfl) ?_
  refine lv_iload_n hx hb dX5_taken_1 rfl (lv_at hl 1 rfl) ?_
  have hPc := hP.sub (ws' := [(fo, .inr (5, [.ref wta, .ref soa, .ref rea, .int (nI cnt), .ref fb, .int fs, .ref ib])), (rea, .inl (cA 3, 4, .inr (.inr (.inr (.inr fR)))))]) [0, 1] rfl
  refine kq_csq (va_runV (As := [.int x]) (rest := []) ⟨hx, hb, hml, hown, hts⟩ (c_FountainRows_receiverAt l dC dI cA fo wta soa rea fb ib cnt fs fR x (by first | assumption | omega)) (cwV 1 hts (kg_V tb_243 tb_244 tb_245 tb_54 tb_242) rfl rfl rfl (by decide +kernel) ⟨Nat.le_of_ble_eq_true rfl, Nat.le_of_ble_eq_true rfl⟩) (kpv_ro hK hN hPc (ci := 5) (q0 := 0) rfl rfl rfl) rfl rfl hl.1 rfl (lv_room (Nat.le_of_ble_eq_true rfl)) dX5_taken_2 ⟨Nat.le_of_ble_eq_true rfl, Nat.le_of_ble_eq_true rfl⟩) (fun r_1 hr_1 => ?_)
  have hr_1 : r_1 = none := hr_1.trans (sp_sat_no hno)
  subst hr_1
  refine W.eq (g2 := F0 m 5 ls [.null]) rfl ?_
  refine lv_astore_nN (lv' := [(3, .null), (0, .ref fo), (1, .int x), (2, .int y)]) hx hb dX5_taken_5 rfl hl (by decide) rfl (fun ls hl => ?_)
  refine lv_aload_nN hx hb dX5_taken_6 rfl (lv_at hl 0 rfl) ?_
  refine lv_ifnullN (tgt := 27) hx hb dX5_taken_7 (by decide) ?_
  refine lv_iconst (v := (-1)) hx hb dX5_taken_27 (by decide) ?_
  exact W.iret (v := (-1)) hx hb hr (fun t9 ht9 hW9 => ⟨(-1), rfl, rfl, ht9⟩) (fun _ h => absurd h List.not_mem_nil) dX5_taken_28
set_option maxHeartbeats 4000000 in
set_option maxRecDepth 100000 in
theorem c_F_isKnown_no (l : Launch) (dC : Nat → ClassId) (dI : Nat → Nat → Nat) (cA : Nat → ClassId) (fo : Nat) (wta : Nat) (soa : Nat) (rea : Nat) (fb : Nat) (ib : Nat) (cnt : Nat) (fs : Int32) (fR : Nat → Option Nat) (x : Int32) (y : Int32) (hcnt : cnt ≤ 4) (hno : sp_has cnt x = 0) : Met l yX5_isKnown (kw_X5_isKnown) ({ frames := 1, cells := 0, slots := 0, locals := 21 }) (va_Pc [.ref fo, .int x, .int y] (fun U => kRO dC dI cA [(fo, .inr (5, [.ref wta, .ref soa, .ref rea, .int (nI cnt), .ref fb, .int fs, .ref ib])), (rea, .inl (cA 3, 4, .inr (.inr (.inr (.inr fR)))))] U)) (vp_Si (fun r => r = (-1))) 0 0 (fun _ => False) := by
  refine Met.ofW (cc := cX5_isKnown) (maxL := 4) (ret := (some .int)) (by decide) rfl ?_
  intro p e s m args below meth c s₁ B hml hv
  obtain ⟨rfl, hP, hK, hN⟩ := hv
  have hx := B.exec
  have hb := B.bytes
  have hr := B.returns
  have hts0 := atoms_spec (ws := (kw_X5_isKnown)) B.pre
  have hts : ∀ w ∈ TB, w.before _ s = true := fun w h => hts0 w (List.mem_cons_of_mem _ h)
  have hown : s.vm.findClass RX5 = some m.cls := findClass_of_methodNamed B.named
  have hlocks := B.notSynchronized
  have hl := lv_entry ([.ref fo, .int x, .int y]) (n := 4) (Nat.le_of_ble_eq_true rfl)
  rw [lg_entry_eq]
  generalize (lg_sl ([.ref fo, .int x, .int y]) ++ List.replicate (4 - (lg_sl ([.ref fo, .int x, .int y])).length) Slot.unset).toArray = ls at hl ⊢
  have hl : lv_has ls 4 [(0, .ref fo), (1, .int x), (2, .int y)] := hl
  refine lv_aload_n hx hb dX5_isKnown_0 rfl (lv_at hl 0 rfl) ?_
  refine lv_iload_n hx hb dX5_isKnown_1 rfl (lv_at hl 1 rfl) ?_
  have hPc := hP.sub (ws' := [(fo, .inr (5, [.ref wta, .ref soa, .ref rea, .int (nI cnt), .ref fb, .int fs, .ref ib])), (rea, .inl (cA 3, 4, .inr (.inr (.inr (.inr fR)))))]) [0, 1] rfl
  refine kq_csq (va_runV (As := [.int x]) (rest := []) ⟨hx, hb, hml, hown, hts⟩ (c_FountainRows_receiverAt l dC dI cA fo wta soa rea fb ib cnt fs fR x (by first | assumption | omega)) (cwV 1 hts (kg_V tb_243 tb_244 tb_245 tb_54 tb_242) rfl rfl rfl (by decide +kernel) ⟨Nat.le_of_ble_eq_true rfl, Nat.le_of_ble_eq_true rfl⟩) (kpv_ro hK hN hPc (ci := 5) (q0 := 0) rfl rfl rfl) rfl rfl hl.1 rfl (lv_room (Nat.le_of_ble_eq_true rfl)) dX5_isKnown_2 ⟨Nat.le_of_ble_eq_true rfl, Nat.le_of_ble_eq_true rfl⟩) (fun r_1 hr_1 => ?_)
  have hr_1 : r_1 = none := hr_1.trans (sp_sat_no hno)
  subst hr_1
  refine W.eq (g2 := F0 m 5 ls [.null]) rfl ?_
  refine lv_astore_nN (lv' := [(3, .null), (0, .ref fo), (1, .int x), (2, .int y)]) hx hb dX5_isKnown_5 rfl hl (by decide) rfl (fun ls hl => ?_)
  refine lv_aload_nN hx hb dX5_isKnown_6 rfl (lv_at hl 0 rfl) ?_
  refine lv_ifnullN (tgt := 21) hx hb dX5_isKnown_7 (by decide) ?_
  refine lv_iconst (v := (-1)) hx hb dX5_isKnown_21 (by decide) ?_
  exact W.iret (v := (-1)) hx hb hr (fun t9 ht9 hW9 => ⟨(-1), rfl, rfl, ht9⟩) (fun _ h => absurd h List.not_mem_nil) dX5_isKnown_22
set_option maxHeartbeats 4000000 in
set_option maxRecDepth 100000 in
theorem c_F_peeled_no (l : Launch) (dC : Nat → ClassId) (dI : Nat → Nat → Nat) (cA : Nat → ClassId) (fo : Nat) (wta : Nat) (soa : Nat) (rea : Nat) (fb : Nat) (ib : Nat) (cnt : Nat) (fs : Int32) (fR : Nat → Option Nat) (x : Int32) (y : Int32) (hcnt : cnt ≤ 4) (hno : sp_has cnt x = 0) : Met l yX5_peeled (kw_X5_peeled) ({ frames := 1, cells := 0, slots := 0, locals := 21 }) (va_Pc [.ref fo, .int x, .int y] (fun U => kRO dC dI cA [(fo, .inr (5, [.ref wta, .ref soa, .ref rea, .int (nI cnt), .ref fb, .int fs, .ref ib])), (rea, .inl (cA 3, 4, .inr (.inr (.inr (.inr fR)))))] U)) (vp_Si (fun r => r = (-1))) 0 0 (fun _ => False) := by
  refine Met.ofW (cc := cX5_peeled) (maxL := 4) (ret := (some .int)) (by decide) rfl ?_
  intro p e s m args below meth c s₁ B hml hv
  obtain ⟨rfl, hP, hK, hN⟩ := hv
  have hx := B.exec
  have hb := B.bytes
  have hr := B.returns
  have hts0 := atoms_spec (ws := (kw_X5_peeled)) B.pre
  have hts : ∀ w ∈ TB, w.before _ s = true := fun w h => hts0 w (List.mem_cons_of_mem _ h)
  have hown : s.vm.findClass RX5 = some m.cls := findClass_of_methodNamed B.named
  have hlocks := B.notSynchronized
  have hl := lv_entry ([.ref fo, .int x, .int y]) (n := 4) (Nat.le_of_ble_eq_true rfl)
  rw [lg_entry_eq]
  generalize (lg_sl ([.ref fo, .int x, .int y]) ++ List.replicate (4 - (lg_sl ([.ref fo, .int x, .int y])).length) Slot.unset).toArray = ls at hl ⊢
  have hl : lv_has ls 4 [(0, .ref fo), (1, .int x), (2, .int y)] := hl
  refine lv_aload_n hx hb dX5_peeled_0 rfl (lv_at hl 0 rfl) ?_
  refine lv_iload_n hx hb dX5_peeled_1 rfl (lv_at hl 1 rfl) ?_
  have hPc := hP.sub (ws' := [(fo, .inr (5, [.ref wta, .ref soa, .ref rea, .int (nI cnt), .ref fb, .int fs, .ref ib])), (rea, .inl (cA 3, 4, .inr (.inr (.inr (.inr fR)))))]) [0, 1] rfl
  refine kq_csq (va_runV (As := [.int x]) (rest := []) ⟨hx, hb, hml, hown, hts⟩ (c_FountainRows_receiverAt l dC dI cA fo wta soa rea fb ib cnt fs fR x (by first | assumption | omega)) (cwV 1 hts (kg_V tb_243 tb_244 tb_245 tb_54 tb_242) rfl rfl rfl (by decide +kernel) ⟨Nat.le_of_ble_eq_true rfl, Nat.le_of_ble_eq_true rfl⟩) (kpv_ro hK hN hPc (ci := 5) (q0 := 0) rfl rfl rfl) rfl rfl hl.1 rfl (lv_room (Nat.le_of_ble_eq_true rfl)) dX5_peeled_2 ⟨Nat.le_of_ble_eq_true rfl, Nat.le_of_ble_eq_true rfl⟩) (fun r_1 hr_1 => ?_)
  have hr_1 : r_1 = none := hr_1.trans (sp_sat_no hno)
  subst hr_1
  refine W.eq (g2 := F0 m 5 ls [.null]) rfl ?_
  refine lv_astore_nN (lv' := [(3, .null), (0, .ref fo), (1, .int x), (2, .int y)]) hx hb dX5_peeled_5 rfl hl (by decide) rfl (fun ls hl => ?_)
  refine lv_aload_nN hx hb dX5_peeled_6 rfl (lv_at hl 0 rfl) ?_
  refine lv_ifnullN (tgt := 29) hx hb dX5_peeled_7 (by decide) ?_
  refine lv_iconst (v := (-1)) hx hb dX5_peeled_29 (by decide) ?_
  exact W.iret (v := (-1)) hx hb hr (fun t9 ht9 hW9 => ⟨(-1), rfl, rfl, ht9⟩) (fun _ h => absurd h List.not_mem_nil) dX5_peeled_30
set_option maxHeartbeats 4000000 in
set_option maxRecDepth 100000 in
theorem c_F_known_no (l : Launch) (dC : Nat → ClassId) (dI : Nat → Nat → Nat) (cA : Nat → ClassId) (fo : Nat) (wta : Nat) (soa : Nat) (rea : Nat) (fb : Nat) (ib : Nat) (cnt : Nat) (fs : Int32) (fR : Nat → Option Nat) (x : Int32) (y : Int32) (hcnt : cnt ≤ 4) (hno : sp_has cnt x = 0) : Met l yX5_known (kw_X5_known) ({ frames := 1, cells := 0, slots := 0, locals := 21 }) (va_Pc [.ref fo, .int x, .int y] (fun U => kRO dC dI cA [(fo, .inr (5, [.ref wta, .ref soa, .ref rea, .int (nI cnt), .ref fb, .int fs, .ref ib])), (rea, .inl (cA 3, 4, .inr (.inr (.inr (.inr fR)))))] U)) (vp_Sl (fun r => r = 0)) 0 0 (fun _ => False) := by
  refine Met.ofW (cc := cX5_known) (maxL := 4) (ret := (some .long)) (by decide) rfl ?_
  intro p e s m args below meth c s₁ B hml hv
  obtain ⟨rfl, hP, hK, hN⟩ := hv
  have hx := B.exec
  have hb := B.bytes
  have hr := B.returns
  have hts0 := atoms_spec (ws := (kw_X5_known)) B.pre
  have hts : ∀ w ∈ TB, w.before _ s = true := fun w h => hts0 w (List.mem_cons_of_mem _ h)
  have hown : s.vm.findClass RX5 = some m.cls := findClass_of_methodNamed B.named
  have hlocks := B.notSynchronized
  have hl := lv_entry ([.ref fo, .int x, .int y]) (n := 4) (Nat.le_of_ble_eq_true rfl)
  rw [lg_entry_eq]
  generalize (lg_sl ([.ref fo, .int x, .int y]) ++ List.replicate (4 - (lg_sl ([.ref fo, .int x, .int y])).length) Slot.unset).toArray = ls at hl ⊢
  have hl : lv_has ls 4 [(0, .ref fo), (1, .int x), (2, .int y)] := hl
  refine lv_aload_n hx hb dX5_known_0 rfl (lv_at hl 0 rfl) ?_
  refine lv_iload_n hx hb dX5_known_1 rfl (lv_at hl 1 rfl) ?_
  have hPc := hP.sub (ws' := [(fo, .inr (5, [.ref wta, .ref soa, .ref rea, .int (nI cnt), .ref fb, .int fs, .ref ib])), (rea, .inl (cA 3, 4, .inr (.inr (.inr (.inr fR)))))]) [0, 1] rfl
  refine kq_csq (va_runV (As := [.int x]) (rest := []) ⟨hx, hb, hml, hown, hts⟩ (c_FountainRows_receiverAt l dC dI cA fo wta soa rea fb ib cnt fs fR x (by first | assumption | omega)) (cwV 1 hts (kg_V tb_243 tb_244 tb_245 tb_54 tb_242) rfl rfl rfl (by decide +kernel) ⟨Nat.le_of_ble_eq_true rfl, Nat.le_of_ble_eq_true rfl⟩) (kpv_ro hK hN hPc (ci := 5) (q0 := 0) rfl rfl rfl) rfl rfl hl.1 rfl (lv_room (Nat.le_of_ble_eq_true rfl)) dX5_known_2 ⟨Nat.le_of_ble_eq_true rfl, Nat.le_of_ble_eq_true rfl⟩) (fun r_1 hr_1 => ?_)
  have hr_1 : r_1 = none := hr_1.trans (sp_sat_no hno)
  subst hr_1
  refine W.eq (g2 := F0 m 5 ls [.null]) rfl ?_
  refine lv_astore_nN (lv' := [(3, .null), (0, .ref fo), (1, .int x), (2, .int y)]) hx hb dX5_known_5 rfl hl (by decide) rfl (fun ls hl => ?_)
  refine lv_aload_nN hx hb dX5_known_6 rfl (lv_at hl 0 rfl) ?_
  refine lv_ifnullN (tgt := 33) hx hb dX5_known_7 (by decide) ?_
  refine lv_lconst (v := 0) hx hb dX5_known_33 (by decide) ?_
  exact W.lret (v := 0) hx hb hr (fun t9 ht9 hW9 => ⟨0, rfl, rfl, ht9⟩) (fun _ h => absurd h List.not_mem_nil) dX5_known_34
set_option maxHeartbeats 4000000 in
set_option maxRecDepth 100000 in
theorem c_F_image_no (l : Launch) (dC : Nat → ClassId) (dI : Nat → Nat → Nat) (cA : Nat → ClassId) (fo : Nat) (wta : Nat) (soa : Nat) (rea : Nat) (fb : Nat) (ib : Nat) (cnt : Nat) (fs : Int32) (fR : Nat → Option Nat) (x : Int32) (hcnt : cnt ≤ 4) (hno : sp_has cnt x = 0) : Met l yX5_image (kw_X5_image) ({ frames := 1, cells := 0, slots := 0, locals := 21 }) (va_Pc [.ref fo, .int x] (fun U => kRO dC dI cA [(fo, .inr (5, [.ref wta, .ref soa, .ref rea, .int (nI cnt), .ref fb, .int fs, .ref ib])), (rea, .inl (cA 3, 4, .inr (.inr (.inr (.inr fR)))))] U)) (vp_Si (fun r => r = (-1))) 0 0 (fun _ => False) := by
  refine Met.ofW (cc := cX5_image) (maxL := 3) (ret := (some .int)) (by decide) rfl ?_
  intro p e s m args below meth c s₁ B hml hv
  obtain ⟨rfl, hP, hK, hN⟩ := hv
  have hx := B.exec
  have hb := B.bytes
  have hr := B.returns
  have hts0 := atoms_spec (ws := (kw_X5_image)) B.pre
  have hts : ∀ w ∈ TB, w.before _ s = true := fun w h => hts0 w (List.mem_cons_of_mem _ h)
  have hown : s.vm.findClass RX5 = some m.cls := findClass_of_methodNamed B.named
  have hlocks := B.notSynchronized
  have hl := lv_entry ([.ref fo, .int x]) (n := 3) (Nat.le_of_ble_eq_true rfl)
  rw [lg_entry_eq]
  generalize (lg_sl ([.ref fo, .int x]) ++ List.replicate (3 - (lg_sl ([.ref fo, .int x])).length) Slot.unset).toArray = ls at hl ⊢
  have hl : lv_has ls 3 [(0, .ref fo), (1, .int x)] := hl
  refine lv_aload_n hx hb dX5_image_0 rfl (lv_at hl 0 rfl) ?_
  refine lv_iload_n hx hb dX5_image_1 rfl (lv_at hl 1 rfl) ?_
  have hPc := hP.sub (ws' := [(fo, .inr (5, [.ref wta, .ref soa, .ref rea, .int (nI cnt), .ref fb, .int fs, .ref ib])), (rea, .inl (cA 3, 4, .inr (.inr (.inr (.inr fR)))))]) [0, 1] rfl
  refine kq_csq (va_runV (As := [.int x]) (rest := []) ⟨hx, hb, hml, hown, hts⟩ (c_FountainRows_receiverAt l dC dI cA fo wta soa rea fb ib cnt fs fR x (by first | assumption | omega)) (cwV 1 hts (kg_V tb_243 tb_244 tb_245 tb_54 tb_242) rfl rfl rfl (by decide +kernel) ⟨Nat.le_of_ble_eq_true rfl, Nat.le_of_ble_eq_true rfl⟩) (kpv_ro hK hN hPc (ci := 5) (q0 := 0) rfl rfl rfl) rfl rfl hl.1 rfl (lv_room (Nat.le_of_ble_eq_true rfl)) dX5_image_2 ⟨Nat.le_of_ble_eq_true rfl, Nat.le_of_ble_eq_true rfl⟩) (fun r_1 hr_1 => ?_)
  have hr_1 : r_1 = none := hr_1.trans (sp_sat_no hno)
  subst hr_1
  refine W.eq (g2 := F0 m 5 ls [.null]) rfl ?_
  refine lv_astore_nN (lv' := [(2, .null), (0, .ref fo), (1, .int x)]) hx hb dX5_image_5 rfl hl (by decide) rfl (fun ls hl => ?_)
  refine lv_aload_nN hx hb dX5_image_6 rfl (lv_at hl 0 rfl) ?_
  refine lv_ifnonnullN hx hb dX5_image_7 ?_
  refine lv_iconst (v := (-1)) hx hb dX5_image_10 (by decide) ?_
  exact W.iret (v := (-1)) hx hb hr (fun t9 ht9 hW9 => ⟨(-1), rfl, rfl, ht9⟩) (fun _ h => absurd h List.not_mem_nil) dX5_image_11
set_option maxHeartbeats 4000000 in
set_option maxRecDepth 100000 in
theorem c_F_resume_no (l : Launch) (dC : Nat → ClassId) (dI : Nat → Nat → Nat) (cA : Nat → ClassId) (fo : Nat) (wta : Nat) (soa : Nat) (rea : Nat) (fb : Nat) (ib : Nat) (cnt : Nat) (fs : Int32) (fR : Nat → Option Nat) (x : Int32) (hcnt : cnt ≤ 4) (hno : sp_has cnt x = 0) : Met l yX5_resume (kw_X5_resume) ({ frames := 1, cells := 0, slots := 0, locals := 21 }) (va_Pc [.ref fo, .int x] (fun U => kRO dC dI cA [(fo, .inr (5, [.ref wta, .ref soa, .ref rea, .int (nI cnt), .ref fb, .int fs, .ref ib])), (rea, .inl (cA 3, 4, .inr (.inr (.inr (.inr fR)))))] U)) (vp_Si (fun r => r = (-1))) 0 0 (fun _ => False) := by
  refine Met.ofW (cc := cX5_resume) (maxL := 4) (ret := (some .int)) (by decide) rfl ?_
  intro p e s m args below meth c s₁ B hml hv
  obtain ⟨rfl, hP, hK, hN⟩ := hv
  have hx := B.exec
  have hb := B.bytes
  have hr := B.returns
  have hts0 := atoms_spec (ws := (kw_X5_resume)) B.pre
  have hts : ∀ w ∈ TB, w.before _ s = true := fun w h => hts0 w (List.mem_cons_of_mem _ h)
  have hown : s.vm.findClass RX5 = some m.cls := findClass_of_methodNamed B.named
  have hlocks := B.notSynchronized
  have hl := lv_entry ([.ref fo, .int x]) (n := 4) (Nat.le_of_ble_eq_true rfl)
  rw [lg_entry_eq]
  generalize (lg_sl ([.ref fo, .int x]) ++ List.replicate (4 - (lg_sl ([.ref fo, .int x])).length) Slot.unset).toArray = ls at hl ⊢
  have hl : lv_has ls 4 [(0, .ref fo), (1, .int x)] := hl
  refine lv_aload_n hx hb dX5_resume_0 rfl (lv_at hl 0 rfl) ?_
  refine lv_iload_n hx hb dX5_resume_1 rfl (lv_at hl 1 rfl) ?_
  have hPc := hP.sub (ws' := [(fo, .inr (5, [.ref wta, .ref soa, .ref rea, .int (nI cnt), .ref fb, .int fs, .ref ib])), (rea, .inl (cA 3, 4, .inr (.inr (.inr (.inr fR)))))]) [0, 1] rfl
  refine kq_csq (va_runV (As := [.int x]) (rest := []) ⟨hx, hb, hml, hown, hts⟩ (c_FountainRows_receiverAt l dC dI cA fo wta soa rea fb ib cnt fs fR x (by first | assumption | omega)) (cwV 1 hts (kg_V tb_243 tb_244 tb_245 tb_54 tb_242) rfl rfl rfl (by decide +kernel) ⟨Nat.le_of_ble_eq_true rfl, Nat.le_of_ble_eq_true rfl⟩) (kpv_ro hK hN hPc (ci := 5) (q0 := 0) rfl rfl rfl) rfl rfl hl.1 rfl (lv_room (Nat.le_of_ble_eq_true rfl)) dX5_resume_2 ⟨Nat.le_of_ble_eq_true rfl, Nat.le_of_ble_eq_true rfl⟩) (fun r_1 hr_1 => ?_)
  have hr_1 : r_1 = none := hr_1.trans (sp_sat_no hno)
  subst hr_1
  refine W.eq (g2 := F0 m 5 ls [.null]) rfl ?_
  refine lv_astore_nN (lv' := [(2, .null), (0, .ref fo), (1, .int x)]) hx hb dX5_resume_5 rfl hl (by decide) rfl (fun ls hl => ?_)
  refine lv_aload_nN hx hb dX5_resume_6 rfl (lv_at hl 0 rfl) ?_
  refine lv_ifnonnullN hx hb dX5_resume_7 ?_
  refine lv_iconst (v := (-1)) hx hb dX5_resume_10 (by decide) ?_
  exact W.iret (v := (-1)) hx hb hr (fun t9 ht9 hW9 => ⟨(-1), rfl, rfl, ht9⟩) (fun _ h => absurd h List.not_mem_nil) dX5_resume_11
set_option maxHeartbeats 4000000 in
set_option maxRecDepth 100000 in
theorem c_F_take_no (l : Launch) (dC : Nat → ClassId) (dI : Nat → Nat → Nat) (cA : Nat → ClassId) (fo : Nat) (wta : Nat) (soa : Nat) (rea : Nat) (fb : Nat) (ib : Nat) (cnt : Nat) (fs : Int32) (fR : Nat → Option Nat) (hcnt : cnt ≤ 4) (hno : sp_has cnt fs = 0) : Met l yX5_take (kw_X5_take) ({ frames := 1, cells := 0, slots := 0, locals := 21 }) (va_Pc [.ref fo] (fun U => kRO dC dI cA [(fo, .inr (5, [.ref wta, .ref soa, .ref rea, .int (nI cnt), .ref fb, .int fs, .ref ib])), (rea, .inl (cA 3, 4, .inr (.inr (.inr (.inr fR)))))] U)) (vp_Si (fun r => r = (-3))) 0 0 (fun _ => False) := by
  refine Met.ofW (cc := cX5_take) (maxL := 2) (ret := (some .int)) (by decide) rfl ?_
  intro p e s m args below meth c s₁ B hml hv
  obtain ⟨rfl, hP, hK, hN⟩ := hv
  have hx := B.exec
  have hb := B.bytes
  have hr := B.returns
  have hts0 := atoms_spec (ws := (kw_X5_take)) B.pre
  have hts : ∀ w ∈ TB, w.before _ s = true := fun w h => hts0 w (List.mem_cons_of_mem _ h)
  have hown : s.vm.findClass RX5 = some m.cls := findClass_of_methodNamed B.named
  have hlocks := B.notSynchronized
  have hk_0 := hts (.fieldLink RX5 47 "FountainRows" "frameSource" "I") tb_230
  have hl := lv_entry ([.ref fo]) (n := 2) (Nat.le_of_ble_eq_true rfl)
  rw [lg_entry_eq]
  generalize (lg_sl ([.ref fo]) ++ List.replicate (2 - (lg_sl ([.ref fo])).length) Slot.unset).toArray = ls at hl ⊢
  have hl : lv_has ls 2 [(0, .ref fo)] := hl
  refine lv_aload_n hx hb dX5_take_0 rfl (lv_at hl 0 rfl) ?_
  refine lv_aload_n hx hb dX5_take_1 rfl (lv_at hl 0 rfl) ?_
  refine va_get (D := (dC, dI)) (ci := 5) (v := .int fs) (C := RX5) (T := TX5) (N := 7) hx hb hts inX5 hown hK hP 0 rfl rfl 5 (by decide) hk_0 (fun _ h9 => h9) rfl dX5_take_2 ?_
  have hPc := hP.sub (ws' := [(fo, .inr (5, [.ref wta, .ref soa, .ref rea, .int (nI cnt), .ref fb, .int fs, .ref ib])), (rea, .inl (cA 3, 4, .inr (.inr (.inr (.inr fR)))))]) [0, 1] rfl
  refine kq_csq (va_runV (As := [.int fs]) (rest := []) ⟨hx, hb, hml, hown, hts⟩ (c_FountainRows_receiverAt l dC dI cA fo wta soa rea fb ib cnt fs fR fs (by first | assumption | omega)) (cwV 1 hts (kg_V tb_243 tb_244 tb_245 tb_54 tb_242) rfl rfl rfl (by decide +kernel) ⟨Nat.le_of_ble_eq_true rfl, Nat.le_of_ble_eq_true rfl⟩) (kpv_ro hK hN hPc (ci := 5) (q0 := 0) rfl rfl rfl) rfl rfl hl.1 rfl (lv_room (Nat.le_of_ble_eq_true rfl)) dX5_take_5 ⟨Nat.le_of_ble_eq_true rfl, Nat.le_of_ble_eq_true rfl⟩) (fun r_1 hr_1 => ?_)
  have hr_1 : r_1 = none := hr_1.trans (sp_sat_no hno)
  subst hr_1
  refine W.eq (g2 := F0 m 8 ls [.null]) rfl ?_
  refine lv_astore_nN (lv' := [(1, .null), (0, .ref fo)]) hx hb dX5_take_8 rfl hl (by decide) rfl (fun ls hl => ?_)
  refine lv_aload_nN hx hb dX5_take_9 rfl (lv_at hl 0 rfl) ?_
  refine lv_ifnonnullN hx hb dX5_take_10 ?_
  refine lv_bipush (v := (-3)) hx hb dX5_take_13 (by decide) ?_
  refine lv_goto (tgt := 26) hx hb dX5_take_15 (by decide) ?_
  exact W.iret (v := (-3)) hx hb hr (fun t9 ht9 hW9 => ⟨(-3), rfl, rfl, ht9⟩) (fun _ h => absurd h List.not_mem_nil) dX5_take_26
set_option maxHeartbeats 4000000 in
set_option maxRecDepth 100000 in
theorem c_F_row_at (l : Launch) (dC : Nat → ClassId) (dI : Nat → Nat → Nat) (cA : Nat → ClassId) (fo : Nat) (wta : Nat) (soa : Nat) (rea : Nat) (fb : Nat) (ib : Nat) (cnt : Nat) (fs : Int32) (fS : Nat → Option Nat) (j : Nat) (o : Nat) (wa : Nat) (ua : Nat) (sa : Nat) (K : Nat) (P : Nat) (S : Nat) (seed : Int32) (T : Int32) (w : Nat → Int32) (y : Int32) (hcnt : cnt ≤ 4) (hj : j < cnt) (hfS : fS j = some o) (hK32 : K ≤ 32) (hP8 : P ≤ 8) (hK1 : 1 ≤ K) : Met l yX5_row (kw_X5_row) ({ frames := 3, cells := 0, slots := 0, locals := 73 }) (va_Pc [.ref fo, .int (nI j), .int y] (fun U => kRO dC dI cA [(fo, .inr (5, [.ref wta, .ref soa, .ref rea, .int (nI cnt), .ref fb, .int fs, .ref ib])), (soa, .inl (cA 2, 4, .inr (.inr (.inr (.inr fS))))), (o, .inr (3, [.int (nI K), .int (nI P), .int (nI (K + P)), .int (nI S), .int seed, .ref wa, .int T, .ref ua, .ref sa])), (wa, .inl (cA 0, 12, .inl w))] U)) (vp_Sl (fun r => r = sp_frow K P seed w T y)) 0 0 (fun _ => False) := by
  refine Met.ofW (cc := cX5_row) (maxL := 4) (ret := (some .long)) (by decide) rfl ?_
  intro p e s m args below meth c s₁ B hml hv
  obtain ⟨rfl, hP, hK, hN⟩ := hv
  have hx := B.exec
  have hb := B.bytes
  have hr := B.returns
  have hts0 := atoms_spec (ws := (kw_X5_row)) B.pre
  have hts : ∀ w ∈ TB, w.before _ s = true := fun w h => hts0 w (List.mem_cons_of_mem _ h)
  have hown : s.vm.findClass RX5 = some m.cls := findClass_of_methodNamed B.named
  have hlocks := B.notSynchronized
  have hk_0 := hts (.constantLong RX5 84 (-2)) tb_250
  have hl := lv_entry ([.ref fo, .int (nI j), .int y]) (n := 4) (Nat.le_of_ble_eq_true rfl)
  rw [lg_entry_eq]
  generalize (lg_sl ([.ref fo, .int (nI j), .int y]) ++ List.replicate (4 - (lg_sl ([.ref fo, .int (nI j), .int y])).length) Slot.unset).toArray = ls at hl ⊢
  have hl : lv_has ls 4 [(0, .ref fo), (1, .int (nI j)), (2, .int y)] := hl
  refine lv_aload_n hx hb dX5_row_0 rfl (lv_at hl 0 rfl) ?_
  refine lv_iload_n hx hb dX5_row_1 rfl (lv_at hl 1 rfl) ?_
  have hPc := hP.sub (ws' := [(fo, .inr (5, [.ref wta, .ref soa, .ref rea, .int (nI cnt), .ref fb, .int fs, .ref ib])), (soa, .inl (cA 2, 4, .inr (.inr (.inr (.inr fS)))))]) [0, 1] rfl
  refine kq_csq (va_runV (As := [.int (nI j)]) (rest := []) ⟨hx, hb, hml, hown, hts⟩ (c_FountainRows_sourceAt l dC dI cA fo wta soa rea fb ib cnt fs fS (nI j) (by first | assumption | omega)) (cwV 1 hts (kg_V tb_238 tb_239 tb_240 tb_54 tb_237) rfl rfl rfl (by decide +kernel) ⟨Nat.le_of_ble_eq_true rfl, Nat.le_of_ble_eq_true rfl⟩) (kpv_ro hK hN hPc (ci := 5) (q0 := 0) rfl rfl rfl) rfl rfl hl.1 rfl (lv_room (Nat.le_of_ble_eq_true rfl)) dX5_row_2 ⟨Nat.le_of_ble_eq_true rfl, Nat.le_of_ble_eq_true rfl⟩) (fun r_1 hr_1 => ?_)
  have hr_1 : r_1 = some o := hr_1.trans (sp_sat_at hcnt hj hfS)
  subst hr_1
  refine W.eq (g2 := F0 m 5 ls [.ref o]) rfl ?_
  refine lv_astore_n (lv' := [(3, .ref o), (0, .ref fo), (1, .int (nI j)), (2, .int y)]) hx hb dX5_row_5 rfl hl (by decide) rfl (fun ls hl => ?_)
  refine lv_aload_n hx hb dX5_row_6 rfl (lv_at hl 0 rfl) ?_
  refine lv_ifnonnull (tgt := 14) hx hb dX5_row_7 (by decide) ?_
  refine lv_iload_n hx hb dX5_row_14 rfl (lv_at hl 3 rfl) ?_
  have hPc := hP.sub (ws' := []) [] rfl
  refine kq_csi (va_runS (As := [.int y]) (rest := []) ⟨hx, hb, hml, hown, hts⟩ (c_FountainRows_isNumber l dC dI cA y) (va_cwS 1 hts (kg_S tb_247 tb_248 tb_54 tb_246) rfl rfl rfl (by decide +kernel) ⟨Nat.le_of_ble_eq_true rfl, Nat.le_of_ble_eq_true rfl⟩) (kps_ro hK hN hPc) rfl rfl hl.1 rfl (lv_room (Nat.le_of_ble_eq_true rfl)) dX5_row_15 ⟨Nat.le_of_ble_eq_true rfl, Nat.le_of_ble_eq_true rfl⟩) (fun r_2 hr_2 => ?_)
  subst hr_2
  refine lv_if_eq (tgt := 29) hx hb dX5_row_18 (by decide) (fun c_3 => ?_) (fun c_3 => ?_)
  · have c_3 : (sp_isnum y) = 0 := c_3
    refine lv_ldc2 (v := (-2)) hx hb hown hk_0 dX5_row_29 ?_
    exact W.lret (v := (-2)) hx hb hr (fun t9 ht9 hW9 => ⟨(-2), rfl, (by unfold sp_frow; rw [if_pos c_3] <;> rfl), ht9⟩) (fun _ h => absurd h List.not_mem_nil) dX5_row_32
  · have c_3 : ¬ ((sp_isnum y) = 0) := c_3
    refine lv_aload_n hx hb dX5_row_21 rfl (lv_at hl 0 rfl) ?_
    refine lv_iload_n hx hb dX5_row_22 rfl (lv_at hl 3 rfl) ?_
    have hPc := hP.sub (ws' := [(o, .inr (3, [.int (nI K), .int (nI P), .int (nI (K + P)), .int (nI S), .int seed, .ref wa, .int T, .ref ua, .ref sa])), (wa, .inl (cA 0, 12, .inl w))]) [2, 3] rfl
    refine kq_csl (va_runV (As := [.int y]) (rest := []) ⟨hx, hb, hml, hown, hts⟩ (c_Source_rowOf l dC dI cA o wa ua sa K P S seed T w y (by first | assumption | omega) (by first | assumption | omega) (by first | assumption | omega)) (cwV 1 hts (kg_V tb_249 tb_85 tb_86 tb_45 tb_83) rfl rfl rfl (by decide +kernel) ⟨Nat.le_of_ble_eq_true rfl, Nat.le_of_ble_eq_true rfl⟩) (kpv_ro hK hN hPc (ci := 3) (q0 := 0) rfl rfl rfl) rfl rfl hl.1 rfl (lv_room (Nat.le_of_ble_eq_true rfl)) dX5_row_23 ⟨Nat.le_of_ble_eq_true rfl, Nat.le_of_ble_eq_true rfl⟩) (fun r_4 hr_4 => ?_)
    subst hr_4
    refine lv_goto (tgt := 32) hx hb dX5_row_26 (by decide) ?_
    exact W.lret (v := sp_row K P seed w T y) hx hb hr (fun t9 ht9 hW9 => ⟨sp_row K P seed w T y, rfl, (by unfold sp_frow; rw [if_neg c_3] <;> rfl), ht9⟩) (fun _ h => absurd h List.not_mem_nil) dX5_row_32
set_option maxHeartbeats 4000000 in
set_option maxRecDepth 100000 in
theorem c_F_sumRow_at (l : Launch) (dC : Nat → ClassId) (dI : Nat → Nat → Nat) (cA : Nat → ClassId) (fo : Nat) (wta : Nat) (soa : Nat) (rea : Nat) (fb : Nat) (ib : Nat) (cnt : Nat) (fs : Int32) (fS : Nat → Option Nat) (j : Nat) (o : Nat) (wa : Nat) (ua : Nat) (sa : Nat) (K : Nat) (P : Nat) (S : Nat) (seed : Int32) (T : Int32) (su : Nat → Int64) (y : Int32) (hcnt : cnt ≤ 4) (hj : j < cnt) (hfS : fS j = some o) (hK32 : K ≤ 32) (hP8 : P ≤ 8) (hK1 : 1 ≤ K) : Met l yX5_sumRow (kw_X5_sumRow) ({ frames := 2, cells := 0, slots := 0, locals := 42 }) (va_Pc [.ref fo, .int (nI j), .int y] (fun U => kRO dC dI cA [(fo, .inr (5, [.ref wta, .ref soa, .ref rea, .int (nI cnt), .ref fb, .int fs, .ref ib])), (soa, .inl (cA 2, 4, .inr (.inr (.inr (.inr fS))))), (o, .inr (3, [.int (nI K), .int (nI P), .int (nI (K + P)), .int (nI S), .int seed, .ref wa, .int T, .ref ua, .ref sa])), (ua, .inl (cA 1, 8, .inr (.inl su)))] U)) (vp_Sl (fun r => r = sp_fsum P su y)) 0 0 (fun _ => False) := by
  refine Met.ofW (cc := cX5_sumRow) (maxL := 4) (ret := (some .long)) (by decide) rfl ?_
  intro p e s m args below meth c s₁ B hml hv
  obtain ⟨rfl, hP, hK, hN⟩ := hv
  have hx := B.exec
  have hb := B.bytes
  have hr := B.returns
  have hts0 := atoms_spec (ws := (kw_X5_sumRow)) B.pre
  have hts : ∀ w ∈ TB, w.before _ s = true := fun w h => hts0 w (List.mem_cons_of_mem _ h)
  have hown : s.vm.findClass RX5 = some m.cls := findClass_of_methodNamed B.named
  have hlocks := B.notSynchronized
  have hk_0 := hts (.constantLong RX5 75 (-1)) tb_241
  have hl := lv_entry ([.ref fo, .int (nI j), .int y]) (n := 4) (Nat.le_of_ble_eq_true rfl)
  rw [lg_entry_eq]
  generalize (lg_sl ([.ref fo, .int (nI j), .int y]) ++ List.replicate (4 - (lg_sl ([.ref fo, .int (nI j), .int y])).length) Slot.unset).toArray = ls at hl ⊢
  have hl : lv_has ls 4 [(0, .ref fo), (1, .int (nI j)), (2, .int y)] := hl
  refine lv_aload_n hx hb dX5_sumRow_0 rfl (lv_at hl 0 rfl) ?_
  refine lv_iload_n hx hb dX5_sumRow_1 rfl (lv_at hl 1 rfl) ?_
  have hPc := hP.sub (ws' := [(fo, .inr (5, [.ref wta, .ref soa, .ref rea, .int (nI cnt), .ref fb, .int fs, .ref ib])), (soa, .inl (cA 2, 4, .inr (.inr (.inr (.inr fS)))))]) [0, 1] rfl
  refine kq_csq (va_runV (As := [.int (nI j)]) (rest := []) ⟨hx, hb, hml, hown, hts⟩ (c_FountainRows_sourceAt l dC dI cA fo wta soa rea fb ib cnt fs fS (nI j) (by first | assumption | omega)) (cwV 1 hts (kg_V tb_238 tb_239 tb_240 tb_54 tb_237) rfl rfl rfl (by decide +kernel) ⟨Nat.le_of_ble_eq_true rfl, Nat.le_of_ble_eq_true rfl⟩) (kpv_ro hK hN hPc (ci := 5) (q0 := 0) rfl rfl rfl) rfl rfl hl.1 rfl (lv_room (Nat.le_of_ble_eq_true rfl)) dX5_sumRow_2 ⟨Nat.le_of_ble_eq_true rfl, Nat.le_of_ble_eq_true rfl⟩) (fun r_1 hr_1 => ?_)
  have hr_1 : r_1 = some o := hr_1.trans (sp_sat_at hcnt hj hfS)
  subst hr_1
  refine W.eq (g2 := F0 m 5 ls [.ref o]) rfl ?_
  refine lv_astore_n (lv' := [(3, .ref o), (0, .ref fo), (1, .int (nI j)), (2, .int y)]) hx hb dX5_sumRow_5 rfl hl (by decide) rfl (fun ls hl => ?_)
  refine lv_aload_n hx hb dX5_sumRow_6 rfl (lv_at hl 0 rfl) ?_
  refine lv_ifnull hx hb dX5_sumRow_7 ?_
  refine lv_aload_n hx hb dX5_sumRow_10 rfl (lv_at hl 0 rfl) ?_
  refine lv_iload_n hx hb dX5_sumRow_11 rfl (lv_at hl 3 rfl) ?_
  have hPc := hP.sub (ws' := [(o, .inr (3, [.int (nI K), .int (nI P), .int (nI (K + P)), .int (nI S), .int seed, .ref wa, .int T, .ref ua, .ref sa]))]) [2] rfl
  refine kq_csi (va_runV (As := [.int y]) (rest := []) ⟨hx, hb, hml, hown, hts⟩ (c_Source_hasSum l dC dI cA o wa ua sa K P S seed T y) (cwV 1 hts (kg_V tb_251 tb_50 tb_51 tb_45 tb_48) rfl rfl rfl (by decide +kernel) ⟨Nat.le_of_ble_eq_true rfl, Nat.le_of_ble_eq_true rfl⟩) (kpv_ro hK hN hPc (ci := 3) (q0 := 0) rfl rfl rfl) rfl rfl hl.1 rfl (lv_room (Nat.le_of_ble_eq_true rfl)) dX5_sumRow_12 ⟨Nat.le_of_ble_eq_true rfl, Nat.le_of_ble_eq_true rfl⟩) (fun r_2 hr_2 => ?_)
  subst hr_2
  refine lv_if_eq (tgt := 26) hx hb dX5_sumRow_15 (by decide) (fun c_3 => ?_) (fun c_3 => ?_)
  · have c_3 : (sp_has P y) = 0 := c_3
    refine lv_ldc2 (v := (-1)) hx hb hown hk_0 dX5_sumRow_26 ?_
    exact W.lret (v := (-1)) hx hb hr (fun t9 ht9 hW9 => ⟨(-1), rfl, (by unfold sp_fsum; rw [if_pos c_3] <;> rfl), ht9⟩) (fun _ h => absurd h List.not_mem_nil) dX5_sumRow_29
  · have c_3 : ¬ ((sp_has P y) = 0) := c_3
    refine lv_aload_n hx hb dX5_sumRow_18 rfl (lv_at hl 0 rfl) ?_
    refine lv_iload_n hx hb dX5_sumRow_19 rfl (lv_at hl 3 rfl) ?_
    have hPc := hP.sub (ws' := [(o, .inr (3, [.int (nI K), .int (nI P), .int (nI (K + P)), .int (nI S), .int seed, .ref wa, .int T, .ref ua, .ref sa])), (ua, .inl (cA 1, 8, .inr (.inl su)))]) [2, 3] rfl
    refine kq_csl (va_runV (As := [.int y]) (rest := []) ⟨hx, hb, hml, hown, hts⟩ (c_Source_symbolsOfSum l dC dI cA o wa ua sa K P S seed T su y (by first | assumption | omega) (by first | assumption | omega)) (cwV 1 hts (kg_V tb_252 tb_58 tb_59 tb_45 tb_56) rfl rfl rfl (by decide +kernel) ⟨Nat.le_of_ble_eq_true rfl, Nat.le_of_ble_eq_true rfl⟩) (kpv_ro hK hN hPc (ci := 3) (q0 := 0) rfl rfl rfl) rfl rfl hl.1 rfl (lv_room (Nat.le_of_ble_eq_true rfl)) dX5_sumRow_20 ⟨Nat.le_of_ble_eq_true rfl, Nat.le_of_ble_eq_true rfl⟩) (fun r_4 hr_4 => ?_)
    subst hr_4
    refine lv_goto (tgt := 29) hx hb dX5_sumRow_23 (by decide) ?_
    exact W.lret (v := sp_sos P su y) hx hb hr (fun t9 ht9 hW9 => ⟨sp_sos P su y, rfl, (by unfold sp_fsum; rw [if_neg c_3] <;> rfl), ht9⟩) (fun _ h => absurd h List.not_mem_nil) dX5_sumRow_29
set_option maxHeartbeats 4000000 in
set_option maxRecDepth 100000 in
theorem c_F_part_at (l : Launch) (dC : Nat → ClassId) (dI : Nat → Nat → Nat) (cA : Nat → ClassId) (fo : Nat) (wta : Nat) (soa : Nat) (rea : Nat) (fb : Nat) (ib : Nat) (cnt : Nat) (fs : Int32) (fS : Nat → Option Nat) (j : Nat) (o : Nat) (wa : Nat) (ua : Nat) (sa : Nat) (K : Nat) (P : Nat) (S : Nat) (seed : Int32) (T : Int32) (su : Nat → Int64) (sy : Nat → Int64) (y : Int32) (hcnt : cnt ≤ 4) (hj : j < cnt) (hfS : fS j = some o) (hK32 : K ≤ 32) (hP8 : P ≤ 8) (hK1 : 1 ≤ K) : Met l yX5_part (kw_X5_part) ({ frames := 3, cells := 0, slots := 0, locals := 68 }) (va_Pc [.ref fo, .int (nI j), .int y] (fun U => kRO dC dI cA [(fo, .inr (5, [.ref wta, .ref soa, .ref rea, .int (nI cnt), .ref fb, .int fs, .ref ib])), (soa, .inl (cA 2, 4, .inr (.inr (.inr (.inr fS))))), (o, .inr (3, [.int (nI K), .int (nI P), .int (nI (K + P)), .int (nI S), .int seed, .ref wa, .int T, .ref ua, .ref sa])), (ua, .inl (cA 1, 8, .inr (.inl su))), (sa, .inl (cA 1, 32, .inr (.inl sy)))] U)) (vp_Sl (fun r => r = sp_fpart K P su sy y)) 0 0 (fun _ => False) := by
  refine Met.ofW (cc := cX5_part) (maxL := 4) (ret := (some .long)) (by decide) rfl ?_
  intro p e s m args below meth c s₁ B hml hv
  obtain ⟨rfl, hP, hK, hN⟩ := hv
  have hx := B.exec
  have hb := B.bytes
  have hr := B.returns
  have hts0 := atoms_spec (ws := (kw_X5_part)) B.pre
  have hts : ∀ w ∈ TB, w.before _ s = true := fun w h => hts0 w (List.mem_cons_of_mem _ h)
  have hown : s.vm.findClass RX5 = some m.cls := findClass_of_methodNamed B.named
  have hlocks := B.notSynchronized
  have hl := lv_entry ([.ref fo, .int (nI j), .int y]) (n := 4) (Nat.le_of_ble_eq_true rfl)
  rw [lg_entry_eq]
  generalize (lg_sl ([.ref fo, .int (nI j), .int y]) ++ List.replicate (4 - (lg_sl ([.ref fo, .int (nI j), .int y])).length) Slot.unset).toArray = ls at hl ⊢
  have hl : lv_has ls 4 [(0, .ref fo), (1, .int (nI j)), (2, .int y)] := hl
  refine lv_aload_n hx hb dX5_part_0 rfl (lv_at hl 0 rfl) ?_
  refine lv_iload_n hx hb dX5_part_1 rfl (lv_at hl 1 rfl) ?_
  have hPc := hP.sub (ws' := [(fo, .inr (5, [.ref wta, .ref soa, .ref rea, .int (nI cnt), .ref fb, .int fs, .ref ib])), (soa, .inl (cA 2, 4, .inr (.inr (.inr (.inr fS)))))]) [0, 1] rfl
  refine kq_csq (va_runV (As := [.int (nI j)]) (rest := []) ⟨hx, hb, hml, hown, hts⟩ (c_FountainRows_sourceAt l dC dI cA fo wta soa rea fb ib cnt fs fS (nI j) (by first | assumption | omega)) (cwV 1 hts (kg_V tb_238 tb_239 tb_240 tb_54 tb_237) rfl rfl rfl (by decide +kernel) ⟨Nat.le_of_ble_eq_true rfl, Nat.le_of_ble_eq_true rfl⟩) (kpv_ro hK hN hPc (ci := 5) (q0 := 0) rfl rfl rfl) rfl rfl hl.1 rfl (lv_room (Nat.le_of_ble_eq_true rfl)) dX5_part_2 ⟨Nat.le_of_ble_eq_true rfl, Nat.le_of_ble_eq_true rfl⟩) (fun r_1 hr_1 => ?_)
  have hr_1 : r_1 = some o := hr_1.trans (sp_sat_at hcnt hj hfS)
  subst hr_1
  refine W.eq (g2 := F0 m 5 ls [.ref o]) rfl ?_
  refine lv_astore_n (lv' := [(3, .ref o), (0, .ref fo), (1, .int (nI j)), (2, .int y)]) hx hb dX5_part_5 rfl hl (by decide) rfl (fun ls hl => ?_)
  refine lv_aload_n hx hb dX5_part_6 rfl (lv_at hl 0 rfl) ?_
  refine lv_ifnull hx hb dX5_part_7 ?_
  refine lv_aload_n hx hb dX5_part_10 rfl (lv_at hl 0 rfl) ?_
  refine lv_iload_n hx hb dX5_part_11 rfl (lv_at hl 3 rfl) ?_
  have hPc := hP.sub (ws' := [(o, .inr (3, [.int (nI K), .int (nI P), .int (nI (K + P)), .int (nI S), .int seed, .ref wa, .int T, .ref ua, .ref sa]))]) [2] rfl
  refine kq_csi (va_runV (As := [.int y]) (rest := []) ⟨hx, hb, hml, hown, hts⟩ (c_Source_hasPart l dC dI cA o wa ua sa K P S seed T y) (cwV 1 hts (kg_V tb_254 tb_255 tb_256 tb_45 tb_253) rfl rfl rfl (by decide +kernel) ⟨Nat.le_of_ble_eq_true rfl, Nat.le_of_ble_eq_true rfl⟩) (kpv_ro hK hN hPc (ci := 3) (q0 := 0) rfl rfl rfl) rfl rfl hl.1 rfl (lv_room (Nat.le_of_ble_eq_true rfl)) dX5_part_12 ⟨Nat.le_of_ble_eq_true rfl, Nat.le_of_ble_eq_true rfl⟩) (fun r_2 hr_2 => ?_)
  subst hr_2
  refine lv_if_eq (tgt := 26) hx hb dX5_part_15 (by decide) (fun c_3 => ?_) (fun c_3 => ?_)
  · have c_3 : (sp_has (K + P) y) = 0 := c_3
    refine lv_lconst (v := 0) hx hb dX5_part_26 (by decide) ?_
    exact W.lret (v := 0) hx hb hr (fun t9 ht9 hW9 => ⟨0, rfl, (by unfold sp_fpart; rw [if_pos c_3] <;> rfl), ht9⟩) (fun _ h => absurd h List.not_mem_nil) dX5_part_27
  · have c_3 : ¬ ((sp_has (K + P) y) = 0) := c_3
    refine lv_aload_n hx hb dX5_part_18 rfl (lv_at hl 0 rfl) ?_
    refine lv_iload_n hx hb dX5_part_19 rfl (lv_at hl 3 rfl) ?_
    have hPc := hP.sub (ws' := [(o, .inr (3, [.int (nI K), .int (nI P), .int (nI (K + P)), .int (nI S), .int seed, .ref wa, .int T, .ref ua, .ref sa])), (ua, .inl (cA 1, 8, .inr (.inl su))), (sa, .inl (cA 1, 32, .inr (.inl sy)))]) [2, 3, 4] rfl
    refine kq_csl (va_runV (As := [.int y]) (rest := []) ⟨hx, hb, hml, hown, hts⟩ (c_Source_partValue l dC dI cA o wa ua sa K P S seed T su sy y (by first | assumption | omega) (by first | assumption | omega)) (cwV 1 hts (kg_V tb_257 tb_89 tb_90 tb_45 tb_87) rfl rfl rfl (by decide +kernel) ⟨Nat.le_of_ble_eq_true rfl, Nat.le_of_ble_eq_true rfl⟩) (kpv_ro hK hN hPc (ci := 3) (q0 := 0) rfl rfl rfl) rfl rfl hl.1 rfl (lv_room (Nat.le_of_ble_eq_true rfl)) dX5_part_20 ⟨Nat.le_of_ble_eq_true rfl, Nat.le_of_ble_eq_true rfl⟩) (fun r_4 hr_4 => ?_)
    subst hr_4
    refine lv_goto (tgt := 27) hx hb dX5_part_23 (by decide) ?_
    exact W.lret (v := sp_part K P su sy y) hx hb hr (fun t9 ht9 hW9 => ⟨sp_part K P su sy y, rfl, (by unfold sp_fpart; rw [if_neg c_3] <;> rfl), ht9⟩) (fun _ h => absurd h List.not_mem_nil) dX5_part_27
set_option maxHeartbeats 4000000 in
set_option maxRecDepth 100000 in
theorem c_F_symbol_at (l : Launch) (dC : Nat → ClassId) (dI : Nat → Nat → Nat) (cA : Nat → ClassId) (sz : Nat) (fo : Nat) (wta : Nat) (soa : Nat) (rea : Nat) (fb : Nat) (ib : Nat) (cnt : Nat) (fs : Int32) (fS : Nat → Option Nat) (j : Nat) (o : Nat) (wa : Nat) (ua : Nat) (sa : Nat) (K : Nat) (P : Nat) (S : Nat) (seed : Int32) (T : Int32) (sy : Nat → Int64) (y : Int32) (v : Int64) (hcnt : cnt ≤ 4) (hj : j < cnt) (hfS : fS j = some o) (hK32 : K ≤ 32) (hP8 : P ≤ 8) (hK1 : 1 ≤ K) : Met l yX5_symbol (kw_X5_symbol) ({ frames := 2, cells := 0, slots := 0, locals := 44 }) (va_Pc [.ref fo, .int (nI j), .int y, .long v] (fun U => kRW dC dI cA [(fo, .inr (5, [.ref wta, .ref soa, .ref rea, .int (nI cnt), .ref fb, .int fs, .ref ib])), (soa, .inl (cA 2, 4, .inr (.inr (.inr (.inr fS))))), (o, .inr (3, [.int (nI K), .int (nI P), .int (nI (K + P)), .int (nI S), .int seed, .ref wa, .int T, .ref ua, .ref sa])), (sa, .inl (cA 1, 32, .inr (.inl sy)))] sz U)) (va_Qi (fun r (u : Unit) => r = sp_fsym K y) (fun (u : Unit) t => kB dC dI (va_A [(fo, .inr (5, [.ref wta, .ref soa, .ref rea, .int (nI cnt), .ref fb, .int fs, .ref ib])), (soa, .inl (cA 2, 4, .inr (.inr (.inr (.inr fS))))), (o, .inr (3, [.int (nI K), .int (nI P), .int (nI (K + P)), .int (nI S), .int seed, .ref wa, .int T, .ref ua, .ref sa])), (sa, .inl (cA 1, 32, .inr (.inl sy)))] sz) [(fo, .inr (5, [.ref wta, .ref soa, .ref rea, .int (nI cnt), .ref fb, .int fs, .ref ib])), (soa, .inl (cA 2, 4, .inr (.inr (.inr (.inr fS))))), (o, .inr (3, [.int (nI K), .int (nI P), .int (nI (K + P)), .int (nI S), .int seed, .ref wa, .int T, .ref ua, .ref sa])), (sa, .inl (cA 1, 32, .inr (.inl (sp_setsym K S sy y v))))] t) (va_A [(fo, .inr (5, [.ref wta, .ref soa, .ref rea, .int (nI cnt), .ref fb, .int fs, .ref ib])), (soa, .inl (cA 2, 4, .inr (.inr (.inr (.inr fS))))), (o, .inr (3, [.int (nI K), .int (nI P), .int (nI (K + P)), .int (nI S), .int seed, .ref wa, .int T, .ref ua, .ref sa])), (sa, .inl (cA 1, 32, .inr (.inl sy)))] sz)) 0 0 (va_A [(fo, .inr (5, [.ref wta, .ref soa, .ref rea, .int (nI cnt), .ref fb, .int fs, .ref ib])), (soa, .inl (cA 2, 4, .inr (.inr (.inr (.inr fS))))), (o, .inr (3, [.int (nI K), .int (nI P), .int (nI (K + P)), .int (nI S), .int seed, .ref wa, .int T, .ref ua, .ref sa])), (sa, .inl (cA 1, 32, .inr (.inl sy)))] sz) := by
  refine Met.ofW (cc := cX5_symbol) (maxL := 6) (ret := (some .int)) (by decide) rfl ?_
  intro p e s m args below meth c s₁ B hml hv
  obtain ⟨rfl, hsz, hP, hK, hN, hD0⟩ := hv
  have hx := B.exec
  have hb := B.bytes
  have hr := B.returns
  have hts0 := atoms_spec (ws := (kw_X5_symbol)) B.pre
  have hts : ∀ w ∈ TB, w.before _ s = true := fun w h => hts0 w (List.mem_cons_of_mem _ h)
  have hown : s.vm.findClass RX5 = some m.cls := findClass_of_methodNamed B.named
  have hlocks := B.notSynchronized
  subst hsz
  have hD := hD0.self (sz := s.heap.size)
  generalize hAe : va_A [(fo, .inr (5, [.ref wta, .ref soa, .ref rea, .int (nI cnt), .ref fb, .int fs, .ref ib])), (soa, .inl (cA 2, 4, .inr (.inr (.inr (.inr fS))))), (o, .inr (3, [.int (nI K), .int (nI P), .int (nI (K + P)), .int (nI S), .int seed, .ref wa, .int T, .ref ua, .ref sa])), (sa, .inl (cA 1, 32, .inr (.inl sy)))] s.heap.size = A at hD ⊢
  have hA : ∀ q : Nat, s.heap.size ≤ q → A q := fun q h => by rw [← hAe]; exact Or.inr h
  have hS : va_S A s.heap s.heap [] := va_S.rf
  have hl := lv_entry ([.ref fo, .int (nI j), .int y, .long v]) (n := 6) (Nat.le_of_ble_eq_true rfl)
  rw [lg_entry_eq]
  generalize (lg_sl ([.ref fo, .int (nI j), .int y, .long v]) ++ List.replicate (6 - (lg_sl ([.ref fo, .int (nI j), .int y, .long v])).length) Slot.unset).toArray = ls at hl ⊢
  have hl : lv_has ls 6 [(0, .ref fo), (1, .int (nI j)), (2, .int y), (3, .long v)] := hl
  refine lv_aload_n hx hb dX5_symbol_0 rfl (lv_at hl 0 rfl) ?_
  refine lv_iload_n hx hb dX5_symbol_1 rfl (lv_at hl 1 rfl) ?_
  have hPc := hP.sub (ws' := [(fo, .inr (5, [.ref wta, .ref soa, .ref rea, .int (nI cnt), .ref fb, .int fs, .ref ib])), (soa, .inl (cA 2, 4, .inr (.inr (.inr (.inr fS)))))]) [0, 1] rfl
  refine kq_csq (va_runV (As := [.int (nI j)]) (rest := []) ⟨hx, hb, hml, hown, hts⟩ (c_FountainRows_sourceAt l dC dI cA fo wta soa rea fb ib cnt fs fS (nI j) (by first | assumption | omega)) (cwV 1 hts (kg_V tb_238 tb_239 tb_240 tb_54 tb_237) rfl rfl rfl (by decide +kernel) ⟨Nat.le_of_ble_eq_true rfl, Nat.le_of_ble_eq_true rfl⟩) (kpv_ro hK hN hPc (ci := 5) (q0 := 0) rfl rfl rfl) rfl rfl hl.1 rfl (lv_room (Nat.le_of_ble_eq_true rfl)) dX5_symbol_2 ⟨Nat.le_of_ble_eq_true rfl, Nat.le_of_ble_eq_true rfl⟩) (fun r_1 hr_1 => ?_)
  have hr_1 : r_1 = some o := hr_1.trans (sp_sat_at hcnt hj hfS)
  subst hr_1
  refine W.eq (g2 := F0 m 5 ls [.ref o]) rfl ?_
  refine lv_astore (lv' := [(5, .ref o), (0, .ref fo), (1, .int (nI j)), (2, .int y), (3, .long v)]) hx hb dX5_symbol_5 hl (by decide) rfl (fun ls hl => ?_)
  refine lv_aload hx hb dX5_symbol_7 (lv_at hl 0 rfl) ?_
  refine lv_ifnull hx hb dX5_symbol_9 ?_
  refine lv_aload hx hb dX5_symbol_12 (lv_at hl 0 rfl) ?_
  refine lv_iload_n hx hb dX5_symbol_14 rfl (lv_at hl 3 rfl) ?_
  have hPc := hP.sub (ws' := [(o, .inr (3, [.int (nI K), .int (nI P), .int (nI (K + P)), .int (nI S), .int seed, .ref wa, .int T, .ref ua, .ref sa]))]) [2] rfl
  refine kq_csi (va_runV (As := [.int y]) (rest := []) ⟨hx, hb, hml, hown, hts⟩ (c_Source_hasSymbol l dC dI cA o wa ua sa K P S seed T y) (cwV 1 hts (kg_V tb_258 tb_43 tb_44 tb_45 tb_41) rfl rfl rfl (by decide +kernel) ⟨Nat.le_of_ble_eq_true rfl, Nat.le_of_ble_eq_true rfl⟩) (kpv_ro hK hN hPc (ci := 3) (q0 := 0) rfl rfl rfl) rfl rfl hl.1 rfl (lv_room (Nat.le_of_ble_eq_true rfl)) dX5_symbol_15 ⟨Nat.le_of_ble_eq_true rfl, Nat.le_of_ble_eq_true rfl⟩) (fun r_2 hr_2 => ?_)
  subst hr_2
  refine lv_if_ne (tgt := 23) hx hb dX5_symbol_18 (by decide) (fun c_3 => ?_) (fun c_3 => ?_)
  · have c_3 : ¬ ((sp_has K y) = 0) := c_3
    refine lv_aload hx hb dX5_symbol_23 (lv_at hl 0 rfl) ?_
    refine lv_iload_n hx hb dX5_symbol_25 rfl (lv_at hl 3 rfl) ?_
    refine lv_lload_n hx hb dX5_symbol_26 rfl (lv_at hl 4 rfl) ?_
    have hPc := hP.sub (ws' := [(o, .inr (3, [.int (nI K), .int (nI P), .int (nI (K + P)), .int (nI S), .int seed, .ref wa, .int T, .ref ua, .ref sa])), (sa, .inl (cA 1, 32, .inr (.inl sy)))]) [2, 3] rfl
    have hDc := hD.sub (ws' := [(o, .inr (3, [.int (nI K), .int (nI P), .int (nI (K + P)), .int (nI S), .int seed, .ref wa, .int T, .ref ua, .ref sa])), (sa, .inl (cA 1, 32, .inr (.inl sy)))]) [2, 3] (by decide) rfl
    have hFc := va_free (wc := [(o, .inr (3, [.int (nI K), .int (nI P), .int (nI (K + P)), .int (nI S), .int seed, .ref wa, .int T, .ref ua, .ref sa])), (sa, .inl (cA 1, 32, .inr (.inl sy)))]) hD hS hA [2, 3] rfl
    refine va_callv (va_runV (As := [.int y, .long v]) (rest := []) ⟨hx, hb, hml, hown, hts⟩ (c_Source_setSymbol l dC dI cA s.heap.size o wa ua sa K P S seed T sy y v (by first | assumption | omega) (by first | assumption | omega)) (cwV 2 hts (kg_V tb_260 tb_261 tb_262 tb_45 tb_259) rfl rfl rfl (by decide +kernel) ⟨Nat.le_of_ble_eq_true rfl, Nat.le_of_ble_eq_true rfl⟩) (kpv_rw hK hN hPc hDc (ci := 3) (q0 := 0) rfl rfl rfl) rfl rfl hl.1 rfl (lv_room (Nat.le_of_ble_eq_true rfl)) dX5_symbol_27 ⟨Nat.le_of_ble_eq_true rfl, Nat.le_of_ble_eq_true rfl⟩) hS (fun q _ h => hFc q h) hFc (fun u9 t9 H1 locs ht9 hvm9 hr_4 hB hz1 hk1 hS => ?_)
    obtain ⟨hP1, hD1⟩ := hB
    rw [ht9] at hP1
    obtain ⟨hP, hD⟩ := va_join (wr := [(fo, .inr (5, [.ref wta, .ref soa, .ref rea, .int (nI cnt), .ref fb, .int fs, .ref ib])), (soa, .inl (cA 2, 4, .inr (.inr (.inr (.inr fS)))))]) (w1 := [(o, .inr (3, [.int (nI K), .int (nI P), .int (nI (K + P)), .int (nI S), .int seed, .ref wa, .int T, .ref ua, .ref sa])), (sa, .inl (cA 1, 32, .inr (.inl (sp_setsym K S sy y v))))]) hP hD [2, 3] [0, 1] rfl rfl (by decide) (by decide) hk1 hFc hP1 hD1
    generalize H1 = H at hP hS ⊢
    have hP : va_P (dC, dI) vwCl [(fo, .inr (5, [.ref wta, .ref soa, .ref rea, .int (nI cnt), .ref fb, .int fs, .ref ib])), (soa, .inl (cA 2, 4, .inr (.inr (.inr (.inr fS))))), (o, .inr (3, [.int (nI K), .int (nI P), .int (nI (K + P)), .int (nI S), .int seed, .ref wa, .int T, .ref ua, .ref sa])), (sa, .inl (cA 1, 32, .inr (.inl (sp_setsym K S sy y v))))] H := hP
    have hD : va_D A [(fo, .inr (5, [.ref wta, .ref soa, .ref rea, .int (nI cnt), .ref fb, .int fs, .ref ib])), (soa, .inl (cA 2, 4, .inr (.inr (.inr (.inr fS))))), (o, .inr (3, [.int (nI K), .int (nI P), .int (nI (K + P)), .int (nI S), .int seed, .ref wa, .int T, .ref ua, .ref sa])), (sa, .inl (cA 1, 32, .inr (.inl (sp_setsym K S sy y v))))] := hD
    refine lv_iconst (v := 1) hx hb dX5_symbol_30 (by decide) ?_
    have hP9 := hP.sub (ws' := [(fo, .inr (5, [.ref wta, .ref soa, .ref rea, .int (nI cnt), .ref fb, .int fs, .ref ib])), (soa, .inl (cA 2, 4, .inr (.inr (.inr (.inr fS))))), (o, .inr (3, [.int (nI K), .int (nI P), .int (nI (K + P)), .int (nI S), .int seed, .ref wa, .int T, .ref ua, .ref sa])), (sa, .inl (cA 1, 32, .inr (.inl (sp_setsym K S sy y v))))]) [0, 1, 2, 3] rfl
    have hD9 := hD.sub (ws' := [(fo, .inr (5, [.ref wta, .ref soa, .ref rea, .int (nI cnt), .ref fb, .int fs, .ref ib])), (soa, .inl (cA 2, 4, .inr (.inr (.inr (.inr fS))))), (o, .inr (3, [.int (nI K), .int (nI P), .int (nI (K + P)), .int (nI S), .int seed, .ref wa, .int T, .ref ua, .ref sa])), (sa, .inl (cA 1, 32, .inr (.inl (sp_setsym K S sy y v))))]) [0, 1, 2, 3] (by decide) rfl
    exact W.iret (v := 1) hx hb hr (fun t9 ht9 hW9 => ⟨⟨1, (), rfl, (by unfold sp_fsym; rw [if_neg c_3] <;> rfl), by rw [ht9]; exact hP9, hD9⟩, hS.F ht9⟩) hS.2.2 dX5_symbol_31
  · have c_3 : (sp_has K y) = 0 := c_3
    refine lv_iconst (v := (-1)) hx hb dX5_symbol_21 (by decide) ?_
    have hP9 := hP.sub (ws' := [(fo, .inr (5, [.ref wta, .ref soa, .ref rea, .int (nI cnt), .ref fb, .int fs, .ref ib])), (soa, .inl (cA 2, 4, .inr (.inr (.inr (.inr fS))))), (o, .inr (3, [.int (nI K), .int (nI P), .int (nI (K + P)), .int (nI S), .int seed, .ref wa, .int T, .ref ua, .ref sa])), (sa, .inl (cA 1, 32, .inr (.inl sy)))]) [0, 1, 2, 3] rfl
    have hD9 := hD.sub (ws' := [(fo, .inr (5, [.ref wta, .ref soa, .ref rea, .int (nI cnt), .ref fb, .int fs, .ref ib])), (soa, .inl (cA 2, 4, .inr (.inr (.inr (.inr fS))))), (o, .inr (3, [.int (nI K), .int (nI P), .int (nI (K + P)), .int (nI S), .int seed, .ref wa, .int T, .ref ua, .ref sa])), (sa, .inl (cA 1, 32, .inr (.inl sy)))]) [0, 1, 2, 3] (by decide) rfl
    have e9_0 : sp_setsym K S sy y v = sy := (by unfold sp_setsym; rw [if_pos (by assumption)])
    have e9 : ([(fo, .inr (5, [.ref wta, .ref soa, .ref rea, .int (nI cnt), .ref fb, .int fs, .ref ib])), (soa, .inl (cA 2, 4, .inr (.inr (.inr (.inr fS))))), (o, .inr (3, [.int (nI K), .int (nI P), .int (nI (K + P)), .int (nI S), .int seed, .ref wa, .int T, .ref ua, .ref sa])), (sa, .inl (cA 1, 32, .inr (.inl (sp_setsym K S sy y v))))] : va_W) = [(fo, .inr (5, [.ref wta, .ref soa, .ref rea, .int (nI cnt), .ref fb, .int fs, .ref ib])), (soa, .inl (cA 2, 4, .inr (.inr (.inr (.inr fS))))), (o, .inr (3, [.int (nI K), .int (nI P), .int (nI (K + P)), .int (nI S), .int seed, .ref wa, .int T, .ref ua, .ref sa])), (sa, .inl (cA 1, 32, .inr (.inl sy)))] := by rw [e9_0]
    exact W.iret (v := (-1)) hx hb hr (fun t9 ht9 hW9 => ⟨⟨(-1), (), rfl, (by unfold sp_fsym; rw [if_pos c_3] <;> rfl), by rw [ht9, e9]; exact hP9, by rw [e9]; exact hD9⟩, hS.F ht9⟩) hS.2.2 dX5_symbol_22
set_option maxHeartbeats 4000000 in
set_option maxRecDepth 100000 in
theorem c_F_frame_at (l : Launch) (dC : Nat → ClassId) (dI : Nat → Nat → Nat) (cA : Nat → ClassId) (sz : Nat) (fo : Nat) (wta : Nat) (soa : Nat) (rea : Nat) (fb : Nat) (fca : Nat) (ib : Nat) (cnt : Nat) (flen : Nat) (fs : Int32) (fS : Nat → Option Nat) (ff : Nat → Int32) (j : Nat) (o : Nat) (wa : Nat) (ua : Nat) (sa : Nat) (K : Nat) (P : Nat) (S : Nat) (seed : Int32) (T : Int32) (w : Nat → Int32) (su : Nat → Int64) (sy : Nat → Int64) (y : Int32) (hcnt : cnt ≤ 4) (hj : j < cnt) (hfS : fS j = some o) (hK32 : K ≤ 32) (hP8 : P ≤ 8) (hK1 : 1 ≤ K) (hS8 : S ≤ 8) (hfl : flen ≤ 12) : Met l yX5_frame (kw_X5_frame) ({ frames := 4, cells := 0, slots := 0, locals := 99 }) (va_Pc [.ref fo, .int (nI j), .int y] (fun U => kRW dC dI cA [(fo, .inr (5, [.ref wta, .ref soa, .ref rea, .int (nI cnt), .ref fb, .int fs, .ref ib])), (soa, .inl (cA 2, 4, .inr (.inr (.inr (.inr fS))))), (fb, .inr (0, [.ref fca, .int (nI flen)])), (fca, .inl (cA 0, 12, .inl ff)), (o, .inr (3, [.int (nI K), .int (nI P), .int (nI (K + P)), .int (nI S), .int seed, .ref wa, .int T, .ref ua, .ref sa])), (wa, .inl (cA 0, 12, .inl w)), (ua, .inl (cA 1, 8, .inr (.inl su))), (sa, .inl (cA 1, 32, .inr (.inl sy)))] sz U)) (va_Qi (fun r (u : Unit) => r = sp_framer flen ff (sp_frm K P S seed w T su sy y) y) (fun (u : Unit) t => kB dC dI (va_A [(fo, .inr (5, [.ref wta, .ref soa, .ref rea, .int (nI cnt), .ref fb, .int fs, .ref ib])), (soa, .inl (cA 2, 4, .inr (.inr (.inr (.inr fS))))), (fb, .inr (0, [.ref fca, .int (nI flen)])), (fca, .inl (cA 0, 12, .inl ff)), (o, .inr (3, [.int (nI K), .int (nI P), .int (nI (K + P)), .int (nI S), .int seed, .ref wa, .int T, .ref ua, .ref sa])), (wa, .inl (cA 0, 12, .inl w)), (ua, .inl (cA 1, 8, .inr (.inl su))), (sa, .inl (cA 1, 32, .inr (.inl sy)))] sz) [(fo, .inr (5, [.ref wta, .ref soa, .ref rea, .int (nI cnt), .ref fb, .int (sp_framei j fs y), .ref ib])), (soa, .inl (cA 2, 4, .inr (.inr (.inr (.inr fS))))), (fb, .inr (0, [.ref fca, .int (nI ((sp_framef flen ff (sp_frm K P S seed w T su sy y) y).2))])), (fca, .inl (cA 0, 12, .inl ((sp_framef flen ff (sp_frm K P S seed w T su sy y) y).1))), (o, .inr (3, [.int (nI K), .int (nI P), .int (nI (K + P)), .int (nI S), .int seed, .ref wa, .int T, .ref ua, .ref sa])), (wa, .inl (cA 0, 12, .inl w)), (ua, .inl (cA 1, 8, .inr (.inl su))), (sa, .inl (cA 1, 32, .inr (.inl sy)))] t) (va_A [(fo, .inr (5, [.ref wta, .ref soa, .ref rea, .int (nI cnt), .ref fb, .int fs, .ref ib])), (soa, .inl (cA 2, 4, .inr (.inr (.inr (.inr fS))))), (fb, .inr (0, [.ref fca, .int (nI flen)])), (fca, .inl (cA 0, 12, .inl ff)), (o, .inr (3, [.int (nI K), .int (nI P), .int (nI (K + P)), .int (nI S), .int seed, .ref wa, .int T, .ref ua, .ref sa])), (wa, .inl (cA 0, 12, .inl w)), (ua, .inl (cA 1, 8, .inr (.inl su))), (sa, .inl (cA 1, 32, .inr (.inl sy)))] sz)) 0 0 (va_A [(fo, .inr (5, [.ref wta, .ref soa, .ref rea, .int (nI cnt), .ref fb, .int fs, .ref ib])), (soa, .inl (cA 2, 4, .inr (.inr (.inr (.inr fS))))), (fb, .inr (0, [.ref fca, .int (nI flen)])), (fca, .inl (cA 0, 12, .inl ff)), (o, .inr (3, [.int (nI K), .int (nI P), .int (nI (K + P)), .int (nI S), .int seed, .ref wa, .int T, .ref ua, .ref sa])), (wa, .inl (cA 0, 12, .inl w)), (ua, .inl (cA 1, 8, .inr (.inl su))), (sa, .inl (cA 1, 32, .inr (.inl sy)))] sz) := by
  refine Met.ofW (cc := cX5_frame) (maxL := 4) (ret := (some .int)) (by decide) rfl ?_
  intro p e s m args below meth c s₁ B hml hv
  obtain ⟨rfl, hsz, hP, hK, hN, hD0⟩ := hv
  have hx := B.exec
  have hb := B.bytes
  have hr := B.returns
  have hts0 := atoms_spec (ws := (kw_X5_frame)) B.pre
  have hts : ∀ w ∈ TB, w.before _ s = true := fun w h => hts0 w (List.mem_cons_of_mem _ h)
  have hown : s.vm.findClass RX5 = some m.cls := findClass_of_methodNamed B.named
  have hlocks := B.notSynchronized
  subst hsz
  have hD := hD0.self (sz := s.heap.size)
  generalize hAe : va_A [(fo, .inr (5, [.ref wta, .ref soa, .ref rea, .int (nI cnt), .ref fb, .int fs, .ref ib])), (soa, .inl (cA 2, 4, .inr (.inr (.inr (.inr fS))))), (fb, .inr (0, [.ref fca, .int (nI flen)])), (fca, .inl (cA 0, 12, .inl ff)), (o, .inr (3, [.int (nI K), .int (nI P), .int (nI (K + P)), .int (nI S), .int seed, .ref wa, .int T, .ref ua, .ref sa])), (wa, .inl (cA 0, 12, .inl w)), (ua, .inl (cA 1, 8, .inr (.inl su))), (sa, .inl (cA 1, 32, .inr (.inl sy)))] s.heap.size = A at hD ⊢
  have hA : ∀ q : Nat, s.heap.size ≤ q → A q := fun q h => by rw [← hAe]; exact Or.inr h
  have hS : va_S A s.heap s.heap [] := va_S.rf
  have hk_0 := hts (.fieldLink RX5 47 "FountainRows" "frameSource" "I") tb_230
  have hk_1 := hts (.fieldLink RX5 43 "FountainRows" "frameBytes" "LFountainRows$Bytes;") tb_231
  have hk_2 : ∀ A9 : Array Value, (Cond.fieldLinkNest RX5 108 "FountainRows$Source" "size" "I" "FountainRows").before A9 s = true := fun _ => va_Nw.use rfl (hN.1 (RX5, 108, "FountainRows$Source", "size", "I", "FountainRows") (List.mem_of_getElem? (i := 6) rfl))
  have hk_3 : ∀ A9 : Array Value, (Cond.fieldLinkNest RX5 111 "FountainRows$Bytes" "length" "I" "FountainRows").before A9 s = true := fun _ => va_Nw.use rfl (hN.1 (RX5, 111, "FountainRows$Bytes", "length", "I", "FountainRows") (List.mem_of_getElem? (i := 0) rfl))
  have hl := lv_entry ([.ref fo, .int (nI j), .int y]) (n := 4) (Nat.le_of_ble_eq_true rfl)
  rw [lg_entry_eq]
  generalize (lg_sl ([.ref fo, .int (nI j), .int y]) ++ List.replicate (4 - (lg_sl ([.ref fo, .int (nI j), .int y])).length) Slot.unset).toArray = ls at hl ⊢
  have hl : lv_has ls 4 [(0, .ref fo), (1, .int (nI j)), (2, .int y)] := hl
  refine lv_aload_n hx hb dX5_frame_0 rfl (lv_at hl 0 rfl) ?_
  refine lv_iload_n hx hb dX5_frame_1 rfl (lv_at hl 1 rfl) ?_
  have hPc := hP.sub (ws' := [(fo, .inr (5, [.ref wta, .ref soa, .ref rea, .int (nI cnt), .ref fb, .int fs, .ref ib])), (soa, .inl (cA 2, 4, .inr (.inr (.inr (.inr fS)))))]) [0, 1] rfl
  refine kq_csq (va_runV (As := [.int (nI j)]) (rest := []) ⟨hx, hb, hml, hown, hts⟩ (c_FountainRows_sourceAt l dC dI cA fo wta soa rea fb ib cnt fs fS (nI j) (by first | assumption | omega)) (cwV 1 hts (kg_V tb_238 tb_239 tb_240 tb_54 tb_237) rfl rfl rfl (by decide +kernel) ⟨Nat.le_of_ble_eq_true rfl, Nat.le_of_ble_eq_true rfl⟩) (kpv_ro hK hN hPc (ci := 5) (q0 := 0) rfl rfl rfl) rfl rfl hl.1 rfl (lv_room (Nat.le_of_ble_eq_true rfl)) dX5_frame_2 ⟨Nat.le_of_ble_eq_true rfl, Nat.le_of_ble_eq_true rfl⟩) (fun r_1 hr_1 => ?_)
  have hr_1 : r_1 = some o := hr_1.trans (sp_sat_at hcnt hj hfS)
  subst hr_1
  refine W.eq (g2 := F0 m 5 ls [.ref o]) rfl ?_
  refine lv_astore_n (lv' := [(3, .ref o), (0, .ref fo), (1, .int (nI j)), (2, .int y)]) hx hb dX5_frame_5 rfl hl (by decide) rfl (fun ls hl => ?_)
  refine lv_aload_n hx hb dX5_frame_6 rfl (lv_at hl 0 rfl) ?_
  refine lv_ifnonnull (tgt := 12) hx hb dX5_frame_7 (by decide) ?_
  refine lv_iload_n hx hb dX5_frame_12 rfl (lv_at hl 3 rfl) ?_
  have hPc := hP.sub (ws' := []) [] rfl
  refine kq_csi (va_runS (As := [.int y]) (rest := []) ⟨hx, hb, hml, hown, hts⟩ (c_FountainRows_isNumber l dC dI cA y) (va_cwS 1 hts (kg_S tb_247 tb_248 tb_54 tb_246) rfl rfl rfl (by decide +kernel) ⟨Nat.le_of_ble_eq_true rfl, Nat.le_of_ble_eq_true rfl⟩) (kps_ro hK hN hPc) rfl rfl hl.1 rfl (lv_room (Nat.le_of_ble_eq_true rfl)) dX5_frame_13 ⟨Nat.le_of_ble_eq_true rfl, Nat.le_of_ble_eq_true rfl⟩) (fun r_2 hr_2 => ?_)
  subst hr_2
  refine lv_if_ne (tgt := 22) hx hb dX5_frame_16 (by decide) (fun c_3 => ?_) (fun c_3 => ?_)
  · have c_3 : ¬ ((sp_isnum y) = 0) := c_3
    have hn0 := c_3
    refine lv_aload_n hx hb dX5_frame_22 rfl (lv_at hl 1 rfl) ?_
    refine lv_iload_n hx hb dX5_frame_23 rfl (lv_at hl 2 rfl) ?_
    refine va_put (D := (dC, dI)) (ci := 5) (v := .int (nI j)) (ty := .int) (C := RX5) (T := TX5) (N := 7) hx hb hts inX5 tyX5 tyX5_ok nmX5 hown hK hP hD hS 0 rfl rfl 5 (by decide) hk_0 (fun _ h9 => h9) rfl (by decide +kernel) rfl rfl (Nat.le_of_ble_eq_true rfl) dX5_frame_24 (fun H locs hP hD hS => ?_)
    have hP : va_P (dC, dI) vwCl [(fo, .inr (5, [.ref wta, .ref soa, .ref rea, .int (nI cnt), .ref fb, .int (nI j), .ref ib])), (soa, .inl (cA 2, 4, .inr (.inr (.inr (.inr fS))))), (fb, .inr (0, [.ref fca, .int (nI flen)])), (fca, .inl (cA 0, 12, .inl ff)), (o, .inr (3, [.int (nI K), .int (nI P), .int (nI (K + P)), .int (nI S), .int seed, .ref wa, .int T, .ref ua, .ref sa])), (wa, .inl (cA 0, 12, .inl w)), (ua, .inl (cA 1, 8, .inr (.inl su))), (sa, .inl (cA 1, 32, .inr (.inl sy)))] H := hP
    have hD : va_D A [(fo, .inr (5, [.ref wta, .ref soa, .ref rea, .int (nI cnt), .ref fb, .int (nI j), .ref ib])), (soa, .inl (cA 2, 4, .inr (.inr (.inr (.inr fS))))), (fb, .inr (0, [.ref fca, .int (nI flen)])), (fca, .inl (cA 0, 12, .inl ff)), (o, .inr (3, [.int (nI K), .int (nI P), .int (nI (K + P)), .int (nI S), .int seed, .ref wa, .int T, .ref ua, .ref sa])), (wa, .inl (cA 0, 12, .inl w)), (ua, .inl (cA 1, 8, .inr (.inl su))), (sa, .inl (cA 1, 32, .inr (.inl sy)))] := hD
    refine lv_aload_n hx hb dX5_frame_27 rfl (lv_at hl 1 rfl) ?_
    refine va_get (D := (dC, dI)) (ci := 5) (v := .ref fb) (C := RX5) (T := TX5) (N := 7) hx hb hts inX5 hown hK hP 0 rfl rfl 4 (by decide) hk_1 (fun _ h9 => h9) rfl dX5_frame_28 ?_
    refine lv_iconst (v := 0) hx hb dX5_frame_31 (by decide) ?_
    have hPc := hP.sub (ws' := [(fb, .inr (0, [.ref fca, .int (nI flen)])), (fca, .inl (cA 0, 12, .inl ff))]) [2, 3] rfl
    have hDc := hD.sub (ws' := [(fb, .inr (0, [.ref fca, .int (nI flen)])), (fca, .inl (cA 0, 12, .inl ff))]) [2, 3] (by decide) rfl
    have hFc := va_free (wc := [(fb, .inr (0, [.ref fca, .int (nI flen)])), (fca, .inl (cA 0, 12, .inl ff))]) hD hS hA [2, 3] rfl
    refine va_callv (va_runV (As := [.int (nI 0)]) (rest := []) ⟨hx, hb, hml, hown, hts⟩ (c_Bytes_shorten l dC dI cA H.size fb fca 12 flen ff 0 (by first | assumption | omega) (by first | assumption | omega) (by first | assumption | omega)) (cwV 1 hts (kg_V tb_234 tb_191 tb_192 tb_11 tb_189) rfl rfl rfl (by decide +kernel) ⟨Nat.le_of_ble_eq_true rfl, Nat.le_of_ble_eq_true rfl⟩) (kpv_rw hK hN hPc hDc (ci := 0) (q0 := 0) rfl rfl rfl) rfl rfl hl.1 rfl (lv_room (Nat.le_of_ble_eq_true rfl)) dX5_frame_32 ⟨Nat.le_of_ble_eq_true rfl, Nat.le_of_ble_eq_true rfl⟩) hS (fun q _ h => hFc q h) hFc (fun u9 t9 H1 locs ht9 hvm9 hr_4 hB hz1 hk1 hS => ?_)
    obtain ⟨hP1, hD1⟩ := hB
    rw [ht9] at hP1
    obtain ⟨hP, hD⟩ := va_join (wr := [(fo, .inr (5, [.ref wta, .ref soa, .ref rea, .int (nI cnt), .ref fb, .int (nI j), .ref ib])), (soa, .inl (cA 2, 4, .inr (.inr (.inr (.inr fS))))), (o, .inr (3, [.int (nI K), .int (nI P), .int (nI (K + P)), .int (nI S), .int seed, .ref wa, .int T, .ref ua, .ref sa])), (wa, .inl (cA 0, 12, .inl w)), (ua, .inl (cA 1, 8, .inr (.inl su))), (sa, .inl (cA 1, 32, .inr (.inl sy)))]) (w1 := [(fb, .inr (0, [.ref fca, .int (nI (if 0 < flen then 0 else flen))])), (fca, .inl (cA 0, 12, .inl ff))]) hP hD [2, 3] [0, 1, 4, 5, 6, 7] rfl rfl (by decide) (by decide) hk1 hFc hP1 hD1
    generalize H1 = H at hP hS ⊢
    have hP : va_P (dC, dI) vwCl [(fo, .inr (5, [.ref wta, .ref soa, .ref rea, .int (nI cnt), .ref fb, .int (nI j), .ref ib])), (soa, .inl (cA 2, 4, .inr (.inr (.inr (.inr fS))))), (o, .inr (3, [.int (nI K), .int (nI P), .int (nI (K + P)), .int (nI S), .int seed, .ref wa, .int T, .ref ua, .ref sa])), (wa, .inl (cA 0, 12, .inl w)), (ua, .inl (cA 1, 8, .inr (.inl su))), (sa, .inl (cA 1, 32, .inr (.inl sy))), (fb, .inr (0, [.ref fca, .int (nI (if 0 < flen then 0 else flen))])), (fca, .inl (cA 0, 12, .inl ff))] H := hP
    have hD : va_D A [(fo, .inr (5, [.ref wta, .ref soa, .ref rea, .int (nI cnt), .ref fb, .int (nI j), .ref ib])), (soa, .inl (cA 2, 4, .inr (.inr (.inr (.inr fS))))), (o, .inr (3, [.int (nI K), .int (nI P), .int (nI (K + P)), .int (nI S), .int seed, .ref wa, .int T, .ref ua, .ref sa])), (wa, .inl (cA 0, 12, .inl w)), (ua, .inl (cA 1, 8, .inr (.inl su))), (sa, .inl (cA 1, 32, .inr (.inl sy))), (fb, .inr (0, [.ref fca, .int (nI (if 0 < flen then 0 else flen))])), (fca, .inl (cA 0, 12, .inl ff))] := hD
    have ef9 : nI (if 0 < flen then 0 else flen) = nI 0 := (by rw [sp_if0])
    rw [ef9] at hP hD
    have hP : va_P (dC, dI) vwCl [(fo, .inr (5, [.ref wta, .ref soa, .ref rea, .int (nI cnt), .ref fb, .int (nI j), .ref ib])), (soa, .inl (cA 2, 4, .inr (.inr (.inr (.inr fS))))), (o, .inr (3, [.int (nI K), .int (nI P), .int (nI (K + P)), .int (nI S), .int seed, .ref wa, .int T, .ref ua, .ref sa])), (wa, .inl (cA 0, 12, .inl w)), (ua, .inl (cA 1, 8, .inr (.inl su))), (sa, .inl (cA 1, 32, .inr (.inl sy))), (fb, .inr (0, [.ref fca, .int (nI 0)])), (fca, .inl (cA 0, 12, .inl ff))] H := hP
    have hD : va_D A [(fo, .inr (5, [.ref wta, .ref soa, .ref rea, .int (nI cnt), .ref fb, .int (nI j), .ref ib])), (soa, .inl (cA 2, 4, .inr (.inr (.inr (.inr fS))))), (o, .inr (3, [.int (nI K), .int (nI P), .int (nI (K + P)), .int (nI S), .int seed, .ref wa, .int T, .ref ua, .ref sa])), (wa, .inl (cA 0, 12, .inl w)), (ua, .inl (cA 1, 8, .inr (.inl su))), (sa, .inl (cA 1, 32, .inr (.inl sy))), (fb, .inr (0, [.ref fca, .int (nI 0)])), (fca, .inl (cA 0, 12, .inl ff))] := hD
    refine lv_aload_n hx hb dX5_frame_35 rfl (lv_at hl 1 rfl) ?_
    refine va_get (D := (dC, dI)) (ci := 5) (v := .ref fb) (C := RX5) (T := TX5) (N := 7) hx hb hts inX5 hown hK hP 0 rfl rfl 4 (by decide) hk_1 (fun _ h9 => h9) rfl dX5_frame_36 ?_
    refine lv_iload_n hx hb dX5_frame_39 rfl (lv_at hl 3 rfl) ?_
    refine lv_i2l (v := y.toInt64) hx hb dX5_frame_40 rfl ?_
    refine lv_iconst (v := 2) hx hb dX5_frame_41 (by decide) ?_
    have hPc := hP.sub (ws' := [(fb, .inr (0, [.ref fca, .int (nI 0)])), (fca, .inl (cA 0, 12, .inl ff))]) [6, 7] rfl
    have hDc := hD.sub (ws' := [(fb, .inr (0, [.ref fca, .int (nI 0)])), (fca, .inl (cA 0, 12, .inl ff))]) [6, 7] (by decide) rfl
    have hFc := va_free (wc := [(fb, .inr (0, [.ref fca, .int (nI 0)])), (fca, .inl (cA 0, 12, .inl ff))]) hD hS hA [6, 7] rfl
    refine va_callv (va_runV (As := [.long y.toInt64, .int (nI 2)]) (rest := []) ⟨hx, hb, hml, hown, hts⟩ (c_Bytes_append l dC dI cA H.size fb fca 12 0 ff y.toInt64 2 (by first | assumption | omega) (by first | assumption | omega) (by first | assumption | omega)) (cwV 2 hts (kg_V tb_236 tb_195 tb_196 tb_11 tb_193) rfl rfl rfl (by decide +kernel) ⟨Nat.le_of_ble_eq_true rfl, Nat.le_of_ble_eq_true rfl⟩) (kpv_rw hK hN hPc hDc (ci := 0) (q0 := 0) rfl rfl rfl) rfl rfl hl.1 rfl (lv_room (Nat.le_of_ble_eq_true rfl)) dX5_frame_42 ⟨Nat.le_of_ble_eq_true rfl, Nat.le_of_ble_eq_true rfl⟩) hS (fun q _ h => hFc q h) hFc (fun u9 t9 H1 locs ht9 hvm9 hr_5 hB hz1 hk1 hS => ?_)
    obtain ⟨hP1, hD1⟩ := hB
    rw [ht9] at hP1
    obtain ⟨hP, hD⟩ := va_join (wr := [(fo, .inr (5, [.ref wta, .ref soa, .ref rea, .int (nI cnt), .ref fb, .int (nI j), .ref ib])), (soa, .inl (cA 2, 4, .inr (.inr (.inr (.inr fS))))), (o, .inr (3, [.int (nI K), .int (nI P), .int (nI (K + P)), .int (nI S), .int seed, .ref wa, .int T, .ref ua, .ref sa])), (wa, .inl (cA 0, 12, .inl w)), (ua, .inl (cA 1, 8, .inr (.inl su))), (sa, .inl (cA 1, 32, .inr (.inl sy)))]) (w1 := [(fb, .inr (0, [.ref fca, .int (nI ((sp_app 12 y.toInt64 2 ff 0).2))])), (fca, .inl (cA 0, 12, .inl ((sp_app 12 y.toInt64 2 ff 0).1)))]) hP hD [6, 7] [0, 1, 2, 3, 4, 5] rfl rfl (by decide) (by decide) hk1 hFc hP1 hD1
    generalize H1 = H at hP hS ⊢
    have hP : va_P (dC, dI) vwCl [(fo, .inr (5, [.ref wta, .ref soa, .ref rea, .int (nI cnt), .ref fb, .int (nI j), .ref ib])), (soa, .inl (cA 2, 4, .inr (.inr (.inr (.inr fS))))), (o, .inr (3, [.int (nI K), .int (nI P), .int (nI (K + P)), .int (nI S), .int seed, .ref wa, .int T, .ref ua, .ref sa])), (wa, .inl (cA 0, 12, .inl w)), (ua, .inl (cA 1, 8, .inr (.inl su))), (sa, .inl (cA 1, 32, .inr (.inl sy))), (fb, .inr (0, [.ref fca, .int (nI ((sp_app 12 y.toInt64 2 ff 0).2))])), (fca, .inl (cA 0, 12, .inl ((sp_app 12 y.toInt64 2 ff 0).1)))] H := hP
    have hD : va_D A [(fo, .inr (5, [.ref wta, .ref soa, .ref rea, .int (nI cnt), .ref fb, .int (nI j), .ref ib])), (soa, .inl (cA 2, 4, .inr (.inr (.inr (.inr fS))))), (o, .inr (3, [.int (nI K), .int (nI P), .int (nI (K + P)), .int (nI S), .int seed, .ref wa, .int T, .ref ua, .ref sa])), (wa, .inl (cA 0, 12, .inl w)), (ua, .inl (cA 1, 8, .inr (.inl su))), (sa, .inl (cA 1, 32, .inr (.inl sy))), (fb, .inr (0, [.ref fca, .int (nI ((sp_app 12 y.toInt64 2 ff 0).2))])), (fca, .inl (cA 0, 12, .inl ((sp_app 12 y.toInt64 2 ff 0).1)))] := hD
    obtain ⟨Ba, hBa⟩ : ∃ z, z = sp_app 12 y.toInt64 2 ff 0 := ⟨_, rfl⟩
    rw [← hBa] at hP hD
    have hBa2 : Ba.2 ≤ 12 := by rw [hBa]; exact sp_app_le _ _ _ _ _ (by first | assumption | omega)
    have hP : va_P (dC, dI) vwCl [(fo, .inr (5, [.ref wta, .ref soa, .ref rea, .int (nI cnt), .ref fb, .int (nI j), .ref ib])), (soa, .inl (cA 2, 4, .inr (.inr (.inr (.inr fS))))), (o, .inr (3, [.int (nI K), .int (nI P), .int (nI (K + P)), .int (nI S), .int seed, .ref wa, .int T, .ref ua, .ref sa])), (wa, .inl (cA 0, 12, .inl w)), (ua, .inl (cA 1, 8, .inr (.inl su))), (sa, .inl (cA 1, 32, .inr (.inl sy))), (fb, .inr (0, [.ref fca, .int (nI Ba.2)])), (fca, .inl (cA 0, 12, .inl Ba.1))] H := hP
    have hD : va_D A [(fo, .inr (5, [.ref wta, .ref soa, .ref rea, .int (nI cnt), .ref fb, .int (nI j), .ref ib])), (soa, .inl (cA 2, 4, .inr (.inr (.inr (.inr fS))))), (o, .inr (3, [.int (nI K), .int (nI P), .int (nI (K + P)), .int (nI S), .int seed, .ref wa, .int T, .ref ua, .ref sa])), (wa, .inl (cA 0, 12, .inl w)), (ua, .inl (cA 1, 8, .inr (.inl su))), (sa, .inl (cA 1, 32, .inr (.inl sy))), (fb, .inr (0, [.ref fca, .int (nI Ba.2)])), (fca, .inl (cA 0, 12, .inl Ba.1))] := hD
    refine lv_aload_n hx hb dX5_frame_45 rfl (lv_at hl 1 rfl) ?_
    refine va_get (D := (dC, dI)) (ci := 5) (v := .ref fb) (C := RX5) (T := TX5) (N := 7) hx hb hts inX5 hown hK hP 0 rfl rfl 4 (by decide) hk_1 (fun _ h9 => h9) rfl dX5_frame_46 ?_
    refine lv_aload_n hx hb dX5_frame_49 rfl (lv_at hl 0 rfl) ?_
    refine lv_iload_n hx hb dX5_frame_50 rfl (lv_at hl 3 rfl) ?_
    have hPc := hP.sub (ws' := [(o, .inr (3, [.int (nI K), .int (nI P), .int (nI (K + P)), .int (nI S), .int seed, .ref wa, .int T, .ref ua, .ref sa])), (wa, .inl (cA 0, 12, .inl w)), (ua, .inl (cA 1, 8, .inr (.inl su))), (sa, .inl (cA 1, 32, .inr (.inl sy)))]) [2, 3, 4, 5] rfl
    refine kq_csl (va_runV (As := [.int y]) (rest := [.ref fb]) ⟨hx, hb, hml, hown, hts⟩ (c_Source_outputOf l dC dI cA o wa ua sa K P S seed T w su sy y (by first | assumption | omega) (by first | assumption | omega) (by first | assumption | omega)) (cwV 1 hts (kg_V tb_264 tb_265 tb_266 tb_45 tb_263) rfl rfl rfl (by decide +kernel) ⟨Nat.le_of_ble_eq_true rfl, Nat.le_of_ble_eq_true rfl⟩) (kpv_ro hK hN hPc (ci := 3) (q0 := 0) rfl rfl rfl) rfl rfl hl.1 rfl (lv_room (Nat.le_of_ble_eq_true rfl)) dX5_frame_51 ⟨Nat.le_of_ble_eq_true rfl, Nat.le_of_ble_eq_true rfl⟩) (fun r_6 hr_6 => ?_)
    subst hr_6
    refine lv_aload_n hx hb dX5_frame_54 rfl (lv_at hl 0 rfl) ?_
    refine va_getN (D := (dC, dI)) (ci := 3) (v := .int (nI S)) (C := RX3) (T := TX3) (N := 9) hx hb hts inX3 hown hK hP 2 rfl rfl 3 (by decide) (hk_2 _) (fun _ h9 => h9) rfl dX5_frame_55 ?_
    have hPc := hP.sub (ws' := [(fb, .inr (0, [.ref fca, .int (nI Ba.2)])), (fca, .inl (cA 0, 12, .inl Ba.1))]) [6, 7] rfl
    have hDc := hD.sub (ws' := [(fb, .inr (0, [.ref fca, .int (nI Ba.2)])), (fca, .inl (cA 0, 12, .inl Ba.1))]) [6, 7] (by decide) rfl
    have hFc := va_free (wc := [(fb, .inr (0, [.ref fca, .int (nI Ba.2)])), (fca, .inl (cA 0, 12, .inl Ba.1))]) hD hS hA [6, 7] rfl
    refine va_callv (va_runV (As := [.long (sp_outl K P su sy (sp_row K P seed w T y) (K + P)), .int (nI S)]) (rest := []) ⟨hx, hb, hml, hown, hts⟩ (c_Bytes_append l dC dI cA H.size fb fca 12 Ba.2 Ba.1 (sp_outl K P su sy (sp_row K P seed w T y) (K + P)) S (by first | assumption | omega) (by first | assumption | omega) (by first | assumption | omega)) (cwV 2 hts (kg_V tb_236 tb_195 tb_196 tb_11 tb_193) rfl rfl rfl (by decide +kernel) ⟨Nat.le_of_ble_eq_true rfl, Nat.le_of_ble_eq_true rfl⟩) (kpv_rw hK hN hPc hDc (ci := 0) (q0 := 0) rfl rfl rfl) rfl rfl hl.1 rfl (lv_room (Nat.le_of_ble_eq_true rfl)) dX5_frame_58 ⟨Nat.le_of_ble_eq_true rfl, Nat.le_of_ble_eq_true rfl⟩) hS (fun q _ h => hFc q h) hFc (fun u9 t9 H1 locs ht9 hvm9 hr_7 hB hz1 hk1 hS => ?_)
    obtain ⟨hP1, hD1⟩ := hB
    rw [ht9] at hP1
    obtain ⟨hP, hD⟩ := va_join (wr := [(fo, .inr (5, [.ref wta, .ref soa, .ref rea, .int (nI cnt), .ref fb, .int (nI j), .ref ib])), (soa, .inl (cA 2, 4, .inr (.inr (.inr (.inr fS))))), (o, .inr (3, [.int (nI K), .int (nI P), .int (nI (K + P)), .int (nI S), .int seed, .ref wa, .int T, .ref ua, .ref sa])), (wa, .inl (cA 0, 12, .inl w)), (ua, .inl (cA 1, 8, .inr (.inl su))), (sa, .inl (cA 1, 32, .inr (.inl sy)))]) (w1 := [(fb, .inr (0, [.ref fca, .int (nI ((sp_app 12 (sp_outl K P su sy (sp_row K P seed w T y) (K + P)) S Ba.1 Ba.2).2))])), (fca, .inl (cA 0, 12, .inl ((sp_app 12 (sp_outl K P su sy (sp_row K P seed w T y) (K + P)) S Ba.1 Ba.2).1)))]) hP hD [6, 7] [0, 1, 2, 3, 4, 5] rfl rfl (by decide) (by decide) hk1 hFc hP1 hD1
    generalize H1 = H at hP hS ⊢
    have hP : va_P (dC, dI) vwCl [(fo, .inr (5, [.ref wta, .ref soa, .ref rea, .int (nI cnt), .ref fb, .int (nI j), .ref ib])), (soa, .inl (cA 2, 4, .inr (.inr (.inr (.inr fS))))), (o, .inr (3, [.int (nI K), .int (nI P), .int (nI (K + P)), .int (nI S), .int seed, .ref wa, .int T, .ref ua, .ref sa])), (wa, .inl (cA 0, 12, .inl w)), (ua, .inl (cA 1, 8, .inr (.inl su))), (sa, .inl (cA 1, 32, .inr (.inl sy))), (fb, .inr (0, [.ref fca, .int (nI ((sp_app 12 (sp_outl K P su sy (sp_row K P seed w T y) (K + P)) S Ba.1 Ba.2).2))])), (fca, .inl (cA 0, 12, .inl ((sp_app 12 (sp_outl K P su sy (sp_row K P seed w T y) (K + P)) S Ba.1 Ba.2).1)))] H := hP
    have hD : va_D A [(fo, .inr (5, [.ref wta, .ref soa, .ref rea, .int (nI cnt), .ref fb, .int (nI j), .ref ib])), (soa, .inl (cA 2, 4, .inr (.inr (.inr (.inr fS))))), (o, .inr (3, [.int (nI K), .int (nI P), .int (nI (K + P)), .int (nI S), .int seed, .ref wa, .int T, .ref ua, .ref sa])), (wa, .inl (cA 0, 12, .inl w)), (ua, .inl (cA 1, 8, .inr (.inl su))), (sa, .inl (cA 1, 32, .inr (.inl sy))), (fb, .inr (0, [.ref fca, .int (nI ((sp_app 12 (sp_outl K P su sy (sp_row K P seed w T y) (K + P)) S Ba.1 Ba.2).2))])), (fca, .inl (cA 0, 12, .inl ((sp_app 12 (sp_outl K P su sy (sp_row K P seed w T y) (K + P)) S Ba.1 Ba.2).1)))] := hD
    obtain ⟨Bb, hBb⟩ : ∃ z, z = sp_app 12 (sp_outl K P su sy (sp_row K P seed w T y) (K + P)) S Ba.1 Ba.2 := ⟨_, rfl⟩
    rw [← hBb] at hP hD
    have hBb2 : Bb.2 ≤ 12 := by rw [hBb]; exact sp_app_le _ _ _ _ _ (by first | assumption | omega)
    have hP : va_P (dC, dI) vwCl [(fo, .inr (5, [.ref wta, .ref soa, .ref rea, .int (nI cnt), .ref fb, .int (nI j), .ref ib])), (soa, .inl (cA 2, 4, .inr (.inr (.inr (.inr fS))))), (o, .inr (3, [.int (nI K), .int (nI P), .int (nI (K + P)), .int (nI S), .int seed, .ref wa, .int T, .ref ua, .ref sa])), (wa, .inl (cA 0, 12, .inl w)), (ua, .inl (cA 1, 8, .inr (.inl su))), (sa, .inl (cA 1, 32, .inr (.inl sy))), (fb, .inr (0, [.ref fca, .int (nI Bb.2)])), (fca, .inl (cA 0, 12, .inl Bb.1))] H := hP
    have hD : va_D A [(fo, .inr (5, [.ref wta, .ref soa, .ref rea, .int (nI cnt), .ref fb, .int (nI j), .ref ib])), (soa, .inl (cA 2, 4, .inr (.inr (.inr (.inr fS))))), (o, .inr (3, [.int (nI K), .int (nI P), .int (nI (K + P)), .int (nI S), .int seed, .ref wa, .int T, .ref ua, .ref sa])), (wa, .inl (cA 0, 12, .inl w)), (ua, .inl (cA 1, 8, .inr (.inl su))), (sa, .inl (cA 1, 32, .inr (.inl sy))), (fb, .inr (0, [.ref fca, .int (nI Bb.2)])), (fca, .inl (cA 0, 12, .inl Bb.1))] := hD
    refine lv_aload_n hx hb dX5_frame_61 rfl (lv_at hl 1 rfl) ?_
    refine va_get (D := (dC, dI)) (ci := 5) (v := .ref fb) (C := RX5) (T := TX5) (N := 7) hx hb hts inX5 hown hK hP 0 rfl rfl 4 (by decide) hk_1 (fun _ h9 => h9) rfl dX5_frame_62 ?_
    refine lv_aload_n hx hb dX5_frame_65 rfl (lv_at hl 1 rfl) ?_
    refine va_get (D := (dC, dI)) (ci := 5) (v := .ref fb) (C := RX5) (T := TX5) (N := 7) hx hb hts inX5 hown hK hP 0 rfl rfl 4 (by decide) hk_1 (fun _ h9 => h9) rfl dX5_frame_66 ?_
    refine lv_aload_n hx hb dX5_frame_69 rfl (lv_at hl 1 rfl) ?_
    refine va_get (D := (dC, dI)) (ci := 5) (v := .ref fb) (C := RX5) (T := TX5) (N := 7) hx hb hts inX5 hown hK hP 0 rfl rfl 4 (by decide) hk_1 (fun _ h9 => h9) rfl dX5_frame_70 ?_
    refine va_getN (D := (dC, dI)) (ci := 0) (v := .int (nI Bb.2)) (C := RX0) (T := TX0) (N := 2) hx hb hts inX0 hown hK hP 6 rfl rfl 1 (by decide) (hk_3 _) (fun _ h9 => h9) rfl dX5_frame_73 ?_
    have hPc := hP.sub (ws' := [(fb, .inr (0, [.ref fca, .int (nI Bb.2)])), (fca, .inl (cA 0, 12, .inl Bb.1))]) [6, 7] rfl
    refine kq_csi (va_runV (As := [.int (nI Bb.2)]) (rest := [.ref fb]) ⟨hx, hb, hml, hown, hts⟩ (c_Bytes_sumOfFirst l dC dI cA fb fca 12 Bb.2 Bb.1 Bb.2 (by first | assumption | omega) (by first | assumption | omega) (by first | assumption | omega)) (cwV 1 hts (kg_V tb_235 tb_28 tb_29 tb_11 tb_26) rfl rfl rfl (by decide +kernel) ⟨Nat.le_of_ble_eq_true rfl, Nat.le_of_ble_eq_true rfl⟩) (kpv_ro hK hN hPc (ci := 0) (q0 := 0) rfl rfl rfl) rfl rfl hl.1 rfl (lv_room (Nat.le_of_ble_eq_true rfl)) dX5_frame_76 ⟨Nat.le_of_ble_eq_true rfl, Nat.le_of_ble_eq_true rfl⟩) (fun r_8 hr_8 => ?_)
    subst hr_8
    refine lv_i2l (v := (sp_crc Bb.2 Bb.1 Bb.2).toInt64) hx hb dX5_frame_79 rfl ?_
    refine lv_iconst (v := 2) hx hb dX5_frame_80 (by decide) ?_
    have hPc := hP.sub (ws' := [(fb, .inr (0, [.ref fca, .int (nI Bb.2)])), (fca, .inl (cA 0, 12, .inl Bb.1))]) [6, 7] rfl
    have hDc := hD.sub (ws' := [(fb, .inr (0, [.ref fca, .int (nI Bb.2)])), (fca, .inl (cA 0, 12, .inl Bb.1))]) [6, 7] (by decide) rfl
    have hFc := va_free (wc := [(fb, .inr (0, [.ref fca, .int (nI Bb.2)])), (fca, .inl (cA 0, 12, .inl Bb.1))]) hD hS hA [6, 7] rfl
    refine va_callv (va_runV (As := [.long ((sp_crc Bb.2 Bb.1 Bb.2).toInt64), .int (nI 2)]) (rest := []) ⟨hx, hb, hml, hown, hts⟩ (c_Bytes_append l dC dI cA H.size fb fca 12 Bb.2 Bb.1 ((sp_crc Bb.2 Bb.1 Bb.2).toInt64) 2 (by first | assumption | omega) (by first | assumption | omega) (by first | assumption | omega)) (cwV 2 hts (kg_V tb_236 tb_195 tb_196 tb_11 tb_193) rfl rfl rfl (by decide +kernel) ⟨Nat.le_of_ble_eq_true rfl, Nat.le_of_ble_eq_true rfl⟩) (kpv_rw hK hN hPc hDc (ci := 0) (q0 := 0) rfl rfl rfl) rfl rfl hl.1 rfl (lv_room (Nat.le_of_ble_eq_true rfl)) dX5_frame_81 ⟨Nat.le_of_ble_eq_true rfl, Nat.le_of_ble_eq_true rfl⟩) hS (fun q _ h => hFc q h) hFc (fun u9 t9 H1 locs ht9 hvm9 hr_9 hB hz1 hk1 hS => ?_)
    obtain ⟨hP1, hD1⟩ := hB
    rw [ht9] at hP1
    obtain ⟨hP, hD⟩ := va_join (wr := [(fo, .inr (5, [.ref wta, .ref soa, .ref rea, .int (nI cnt), .ref fb, .int (nI j), .ref ib])), (soa, .inl (cA 2, 4, .inr (.inr (.inr (.inr fS))))), (o, .inr (3, [.int (nI K), .int (nI P), .int (nI (K + P)), .int (nI S), .int seed, .ref wa, .int T, .ref ua, .ref sa])), (wa, .inl (cA 0, 12, .inl w)), (ua, .inl (cA 1, 8, .inr (.inl su))), (sa, .inl (cA 1, 32, .inr (.inl sy)))]) (w1 := [(fb, .inr (0, [.ref fca, .int (nI ((sp_app 12 ((sp_crc Bb.2 Bb.1 Bb.2).toInt64) 2 Bb.1 Bb.2).2))])), (fca, .inl (cA 0, 12, .inl ((sp_app 12 ((sp_crc Bb.2 Bb.1 Bb.2).toInt64) 2 Bb.1 Bb.2).1)))]) hP hD [6, 7] [0, 1, 2, 3, 4, 5] rfl rfl (by decide) (by decide) hk1 hFc hP1 hD1
    generalize H1 = H at hP hS ⊢
    have hP : va_P (dC, dI) vwCl [(fo, .inr (5, [.ref wta, .ref soa, .ref rea, .int (nI cnt), .ref fb, .int (nI j), .ref ib])), (soa, .inl (cA 2, 4, .inr (.inr (.inr (.inr fS))))), (o, .inr (3, [.int (nI K), .int (nI P), .int (nI (K + P)), .int (nI S), .int seed, .ref wa, .int T, .ref ua, .ref sa])), (wa, .inl (cA 0, 12, .inl w)), (ua, .inl (cA 1, 8, .inr (.inl su))), (sa, .inl (cA 1, 32, .inr (.inl sy))), (fb, .inr (0, [.ref fca, .int (nI ((sp_app 12 ((sp_crc Bb.2 Bb.1 Bb.2).toInt64) 2 Bb.1 Bb.2).2))])), (fca, .inl (cA 0, 12, .inl ((sp_app 12 ((sp_crc Bb.2 Bb.1 Bb.2).toInt64) 2 Bb.1 Bb.2).1)))] H := hP
    have hD : va_D A [(fo, .inr (5, [.ref wta, .ref soa, .ref rea, .int (nI cnt), .ref fb, .int (nI j), .ref ib])), (soa, .inl (cA 2, 4, .inr (.inr (.inr (.inr fS))))), (o, .inr (3, [.int (nI K), .int (nI P), .int (nI (K + P)), .int (nI S), .int seed, .ref wa, .int T, .ref ua, .ref sa])), (wa, .inl (cA 0, 12, .inl w)), (ua, .inl (cA 1, 8, .inr (.inl su))), (sa, .inl (cA 1, 32, .inr (.inl sy))), (fb, .inr (0, [.ref fca, .int (nI ((sp_app 12 ((sp_crc Bb.2 Bb.1 Bb.2).toInt64) 2 Bb.1 Bb.2).2))])), (fca, .inl (cA 0, 12, .inl ((sp_app 12 ((sp_crc Bb.2 Bb.1 Bb.2).toInt64) 2 Bb.1 Bb.2).1)))] := hD
    obtain ⟨Bc, hBc⟩ : ∃ z, z = sp_app 12 ((sp_crc Bb.2 Bb.1 Bb.2).toInt64) 2 Bb.1 Bb.2 := ⟨_, rfl⟩
    rw [← hBc] at hP hD
    have hBc2 : Bc.2 ≤ 12 := by rw [hBc]; exact sp_app_le _ _ _ _ _ (by first | assumption | omega)
    have hP : va_P (dC, dI) vwCl [(fo, .inr (5, [.ref wta, .ref soa, .ref rea, .int (nI cnt), .ref fb, .int (nI j), .ref ib])), (soa, .inl (cA 2, 4, .inr (.inr (.inr (.inr fS))))), (o, .inr (3, [.int (nI K), .int (nI P), .int (nI (K + P)), .int (nI S), .int seed, .ref wa, .int T, .ref ua, .ref sa])), (wa, .inl (cA 0, 12, .inl w)), (ua, .inl (cA 1, 8, .inr (.inl su))), (sa, .inl (cA 1, 32, .inr (.inl sy))), (fb, .inr (0, [.ref fca, .int (nI Bc.2)])), (fca, .inl (cA 0, 12, .inl Bc.1))] H := hP
    have hD : va_D A [(fo, .inr (5, [.ref wta, .ref soa, .ref rea, .int (nI cnt), .ref fb, .int (nI j), .ref ib])), (soa, .inl (cA 2, 4, .inr (.inr (.inr (.inr fS))))), (o, .inr (3, [.int (nI K), .int (nI P), .int (nI (K + P)), .int (nI S), .int seed, .ref wa, .int T, .ref ua, .ref sa])), (wa, .inl (cA 0, 12, .inl w)), (ua, .inl (cA 1, 8, .inr (.inl su))), (sa, .inl (cA 1, 32, .inr (.inl sy))), (fb, .inr (0, [.ref fca, .int (nI Bc.2)])), (fca, .inl (cA 0, 12, .inl Bc.1))] := hD
    refine lv_aload_n hx hb dX5_frame_84 rfl (lv_at hl 1 rfl) ?_
    refine va_get (D := (dC, dI)) (ci := 5) (v := .ref fb) (C := RX5) (T := TX5) (N := 7) hx hb hts inX5 hown hK hP 0 rfl rfl 4 (by decide) hk_1 (fun _ h9 => h9) rfl dX5_frame_85 ?_
    refine va_getN (D := (dC, dI)) (ci := 0) (v := .int (nI Bc.2)) (C := RX0) (T := TX0) (N := 2) hx hb hts inX0 hown hK hP 6 rfl rfl 1 (by decide) (hk_3 _) (fun _ h9 => h9) rfl dX5_frame_88 ?_
    have hP9 := hP.sub (ws' := [(fo, .inr (5, [.ref wta, .ref soa, .ref rea, .int (nI cnt), .ref fb, .int (nI j), .ref ib])), (soa, .inl (cA 2, 4, .inr (.inr (.inr (.inr fS))))), (fb, .inr (0, [.ref fca, .int (nI Bc.2)])), (fca, .inl (cA 0, 12, .inl Bc.1)), (o, .inr (3, [.int (nI K), .int (nI P), .int (nI (K + P)), .int (nI S), .int seed, .ref wa, .int T, .ref ua, .ref sa])), (wa, .inl (cA 0, 12, .inl w)), (ua, .inl (cA 1, 8, .inr (.inl su))), (sa, .inl (cA 1, 32, .inr (.inl sy)))]) [0, 1, 6, 7, 2, 3, 4, 5] rfl
    have hD9 := hD.sub (ws' := [(fo, .inr (5, [.ref wta, .ref soa, .ref rea, .int (nI cnt), .ref fb, .int (nI j), .ref ib])), (soa, .inl (cA 2, 4, .inr (.inr (.inr (.inr fS))))), (fb, .inr (0, [.ref fca, .int (nI Bc.2)])), (fca, .inl (cA 0, 12, .inl Bc.1)), (o, .inr (3, [.int (nI K), .int (nI P), .int (nI (K + P)), .int (nI S), .int seed, .ref wa, .int T, .ref ua, .ref sa])), (wa, .inl (cA 0, 12, .inl w)), (ua, .inl (cA 1, 8, .inr (.inl su))), (sa, .inl (cA 1, 32, .inr (.inl sy)))]) [0, 1, 6, 7, 2, 3, 4, 5] (by decide) rfl
    have e9_0 : (sp_framei j fs y) = nI j := (by first | (unfold sp_framei; first | rw [if_pos hn0] | rw [if_neg hn0]) | (unfold sp_framef; first | rw [if_pos hn0] | (rw [if_neg hn0, hBc, hBb, hBa] <;> rfl)))
    have e9_1 : nI ((sp_framef flen ff (sp_frm K P S seed w T su sy y) y).2) = nI Bc.2 := (by first | (unfold sp_framei; first | rw [if_pos hn0] | rw [if_neg hn0]) | (unfold sp_framef; first | rw [if_pos hn0] | (rw [if_neg hn0, hBc, hBb, hBa] <;> rfl)))
    have e9_2 : (sp_framef flen ff (sp_frm K P S seed w T su sy y) y).1 = Bc.1 := (by first | (unfold sp_framei; first | rw [if_pos hn0] | rw [if_neg hn0]) | (unfold sp_framef; first | rw [if_pos hn0] | (rw [if_neg hn0, hBc, hBb, hBa] <;> rfl)))
    have e9 : ([(fo, .inr (5, [.ref wta, .ref soa, .ref rea, .int (nI cnt), .ref fb, .int (sp_framei j fs y), .ref ib])), (soa, .inl (cA 2, 4, .inr (.inr (.inr (.inr fS))))), (fb, .inr (0, [.ref fca, .int (nI ((sp_framef flen ff (sp_frm K P S seed w T su sy y) y).2))])), (fca, .inl (cA 0, 12, .inl ((sp_framef flen ff (sp_frm K P S seed w T su sy y) y).1))), (o, .inr (3, [.int (nI K), .int (nI P), .int (nI (K + P)), .int (nI S), .int seed, .ref wa, .int T, .ref ua, .ref sa])), (wa, .inl (cA 0, 12, .inl w)), (ua, .inl (cA 1, 8, .inr (.inl su))), (sa, .inl (cA 1, 32, .inr (.inl sy)))] : va_W) = [(fo, .inr (5, [.ref wta, .ref soa, .ref rea, .int (nI cnt), .ref fb, .int (nI j), .ref ib])), (soa, .inl (cA 2, 4, .inr (.inr (.inr (.inr fS))))), (fb, .inr (0, [.ref fca, .int (nI Bc.2)])), (fca, .inl (cA 0, 12, .inl Bc.1)), (o, .inr (3, [.int (nI K), .int (nI P), .int (nI (K + P)), .int (nI S), .int seed, .ref wa, .int T, .ref ua, .ref sa])), (wa, .inl (cA 0, 12, .inl w)), (ua, .inl (cA 1, 8, .inr (.inl su))), (sa, .inl (cA 1, 32, .inr (.inl sy)))] := by rw [e9_0, e9_1, e9_2]
    exact W.iret (v := nI Bc.2) hx hb hr (fun t9 ht9 hW9 => ⟨⟨nI Bc.2, (), rfl, (by unfold sp_framer; rw [if_neg hn0, hBc, hBb, hBa] <;> rfl), by rw [ht9, e9]; exact hP9, by rw [e9]; exact hD9⟩, hS.F ht9⟩) hS.2.2 dX5_frame_91
  · have c_3 : (sp_isnum y) = 0 := c_3
    have hn0 := c_3
    refine lv_bipush (v := (-2)) hx hb dX5_frame_19 (by decide) ?_
    have hP9 := hP.sub (ws' := [(fo, .inr (5, [.ref wta, .ref soa, .ref rea, .int (nI cnt), .ref fb, .int fs, .ref ib])), (soa, .inl (cA 2, 4, .inr (.inr (.inr (.inr fS))))), (fb, .inr (0, [.ref fca, .int (nI flen)])), (fca, .inl (cA 0, 12, .inl ff)), (o, .inr (3, [.int (nI K), .int (nI P), .int (nI (K + P)), .int (nI S), .int seed, .ref wa, .int T, .ref ua, .ref sa])), (wa, .inl (cA 0, 12, .inl w)), (ua, .inl (cA 1, 8, .inr (.inl su))), (sa, .inl (cA 1, 32, .inr (.inl sy)))]) [0, 1, 2, 3, 4, 5, 6, 7] rfl
    have hD9 := hD.sub (ws' := [(fo, .inr (5, [.ref wta, .ref soa, .ref rea, .int (nI cnt), .ref fb, .int fs, .ref ib])), (soa, .inl (cA 2, 4, .inr (.inr (.inr (.inr fS))))), (fb, .inr (0, [.ref fca, .int (nI flen)])), (fca, .inl (cA 0, 12, .inl ff)), (o, .inr (3, [.int (nI K), .int (nI P), .int (nI (K + P)), .int (nI S), .int seed, .ref wa, .int T, .ref ua, .ref sa])), (wa, .inl (cA 0, 12, .inl w)), (ua, .inl (cA 1, 8, .inr (.inl su))), (sa, .inl (cA 1, 32, .inr (.inl sy)))]) [0, 1, 2, 3, 4, 5, 6, 7] (by decide) rfl
    have e9_0 : (sp_framei j fs y) = fs := (by first | (unfold sp_framei; first | rw [if_pos hn0] | rw [if_neg hn0]) | (unfold sp_framef; first | rw [if_pos hn0] | (rw [if_neg hn0, hBc, hBb, hBa] <;> rfl)))
    have e9_1 : nI ((sp_framef flen ff (sp_frm K P S seed w T su sy y) y).2) = nI flen := (by first | (unfold sp_framei; first | rw [if_pos hn0] | rw [if_neg hn0]) | (unfold sp_framef; first | rw [if_pos hn0] | (rw [if_neg hn0, hBc, hBb, hBa] <;> rfl)))
    have e9_2 : (sp_framef flen ff (sp_frm K P S seed w T su sy y) y).1 = ff := (by first | (unfold sp_framei; first | rw [if_pos hn0] | rw [if_neg hn0]) | (unfold sp_framef; first | rw [if_pos hn0] | (rw [if_neg hn0, hBc, hBb, hBa] <;> rfl)))
    have e9 : ([(fo, .inr (5, [.ref wta, .ref soa, .ref rea, .int (nI cnt), .ref fb, .int (sp_framei j fs y), .ref ib])), (soa, .inl (cA 2, 4, .inr (.inr (.inr (.inr fS))))), (fb, .inr (0, [.ref fca, .int (nI ((sp_framef flen ff (sp_frm K P S seed w T su sy y) y).2))])), (fca, .inl (cA 0, 12, .inl ((sp_framef flen ff (sp_frm K P S seed w T su sy y) y).1))), (o, .inr (3, [.int (nI K), .int (nI P), .int (nI (K + P)), .int (nI S), .int seed, .ref wa, .int T, .ref ua, .ref sa])), (wa, .inl (cA 0, 12, .inl w)), (ua, .inl (cA 1, 8, .inr (.inl su))), (sa, .inl (cA 1, 32, .inr (.inl sy)))] : va_W) = [(fo, .inr (5, [.ref wta, .ref soa, .ref rea, .int (nI cnt), .ref fb, .int fs, .ref ib])), (soa, .inl (cA 2, 4, .inr (.inr (.inr (.inr fS))))), (fb, .inr (0, [.ref fca, .int (nI flen)])), (fca, .inl (cA 0, 12, .inl ff)), (o, .inr (3, [.int (nI K), .int (nI P), .int (nI (K + P)), .int (nI S), .int seed, .ref wa, .int T, .ref ua, .ref sa])), (wa, .inl (cA 0, 12, .inl w)), (ua, .inl (cA 1, 8, .inr (.inl su))), (sa, .inl (cA 1, 32, .inr (.inl sy)))] := by rw [e9_0, e9_1, e9_2]
    exact W.iret (v := (-2)) hx hb hr (fun t9 ht9 hW9 => ⟨⟨(-2), (), rfl, (by unfold sp_framer; rw [if_pos hn0]), by rw [ht9, e9]; exact hP9, by rw [e9]; exact hD9⟩, hS.F ht9⟩) hS.2.2 dX5_frame_21
set_option maxHeartbeats 4000000 in
set_option maxRecDepth 100000 in
theorem c_F_taken_at (l : Launch) (dC : Nat → ClassId) (dI : Nat → Nat → Nat) (cA : Nat → ClassId) (fo : Nat) (wta : Nat) (soa : Nat) (rea : Nat) (fb : Nat) (ib : Nat) (cnt : Nat) (fs : Int32) (fR : Nat → Option Nat) (j : Nat) (o : Nat) (ro : Nat) (sp : Nat) (pe : Nat) (na : Nat) (oa : Nat) (ra : Nat) (wr : Int32) (tw : Int32) (co : Int32) (Z : RcT) (y : Int32) (hcnt : cnt ≤ 4) (hj : j < cnt) (hfR : fR j = some ro) (htk : Z.2.2.2.2.1 ≤ 64) : Met l yX5_taken (kw_X5_taken) ({ frames := 1, cells := 0, slots := 0, locals := 21 }) (va_Pc [.ref fo, .int (nI j), .int y] (fun U => kRO dC dI cA [(fo, .inr (5, [.ref wta, .ref soa, .ref rea, .int (nI cnt), .ref fb, .int fs, .ref ib])), (rea, .inl (cA 3, 4, .inr (.inr (.inr (.inr fR))))), (ro, .inr (2, [.ref o, .ref sp, .ref pe, .int Z.2.2.2.2.2, .ref na, .ref oa, .ref ra, .int (nI Z.2.2.2.2.1), .int wr, .int tw, .int co])), (na, .inl (cA 0, 64, .inl Z.2.1))] U)) (vp_Si (fun r => r = sp_ftaken Z y)) 0 0 (fun _ => False) := by
  refine Met.ofW (cc := cX5_taken) (maxL := 4) (ret := (some .int)) (by decide) rfl ?_
  intro p e s m args below meth c s₁ B hml hv
  obtain ⟨rfl, hP, hK, hN⟩ := hv
  have hx := B.exec
  have hb := B.bytes
  have hr := B.returns
  have hts0 := atoms_spec (ws := (kw_X5_taken)) B.pre
  have hts : ∀ w ∈ TB, w.before _ s = true := fun w h => hts0 w (List.mem_cons_of_mem _ h)
  have hown : s.vm.findClass RX5 = some m.cls := findClass_of_methodNamed B.named
  have hlocks := B.notSynchronized
  have hk_0 : ∀ A9 : Array Value, (Cond.fieldLinkNest RX5 142 "FountainRows$Receiver" "numbers" "[I" "FountainRows").before A9 s = true := fun _ => va_Nw.use rfl (hN.1 (RX5, 142, "FountainRows$Receiver", "numbers", "[I", "FountainRows") (List.mem_of_getElem? (i := 16) rfl))
  have hl := lv_entry ([.ref fo, .int (nI j), .int y]) (n := 4) (Nat.le_of_ble_eq_true rfl)
  rw [lg_entry_eq]
  generalize (lg_sl ([.ref fo, .int (nI j), .int y]) ++ List.replicate (4 - (lg_sl ([.ref fo, .int (nI j), .int y])).length) Slot.unset).toArray = ls at hl ⊢
  have hl : lv_has ls 4 [(0, .ref fo), (1, .int (nI j)), (2, .int y)] := hl
  refine lv_aload_n hx hb dX5_taken_0 rfl (lv_at hl 0 rfl) ?_
  refine lv_iload_n hx hb dX5_taken_1 rfl (lv_at hl 1 rfl) ?_
  have hPc := hP.sub (ws' := [(fo, .inr (5, [.ref wta, .ref soa, .ref rea, .int (nI cnt), .ref fb, .int fs, .ref ib])), (rea, .inl (cA 3, 4, .inr (.inr (.inr (.inr fR)))))]) [0, 1] rfl
  refine kq_csq (va_runV (As := [.int (nI j)]) (rest := []) ⟨hx, hb, hml, hown, hts⟩ (c_FountainRows_receiverAt l dC dI cA fo wta soa rea fb ib cnt fs fR (nI j) (by first | assumption | omega)) (cwV 1 hts (kg_V tb_243 tb_244 tb_245 tb_54 tb_242) rfl rfl rfl (by decide +kernel) ⟨Nat.le_of_ble_eq_true rfl, Nat.le_of_ble_eq_true rfl⟩) (kpv_ro hK hN hPc (ci := 5) (q0 := 0) rfl rfl rfl) rfl rfl hl.1 rfl (lv_room (Nat.le_of_ble_eq_true rfl)) dX5_taken_2 ⟨Nat.le_of_ble_eq_true rfl, Nat.le_of_ble_eq_true rfl⟩) (fun r_1 hr_1 => ?_)
  have hr_1 : r_1 = some ro := hr_1.trans (sp_sat_at hcnt hj hfR)
  subst hr_1
  refine W.eq (g2 := F0 m 5 ls [.ref ro]) rfl ?_
  refine lv_astore_n (lv' := [(3, .ref ro), (0, .ref fo), (1, .int (nI j)), (2, .int y)]) hx hb dX5_taken_5 rfl hl (by decide) rfl (fun ls hl => ?_)
  refine lv_aload_n hx hb dX5_taken_6 rfl (lv_at hl 0 rfl) ?_
  refine lv_ifnull hx hb dX5_taken_7 ?_
  refine lv_aload_n hx hb dX5_taken_10 rfl (lv_at hl 0 rfl) ?_
  refine lv_iload_n hx hb dX5_taken_11 rfl (lv_at hl 3 rfl) ?_
  have hPc := hP.sub (ws' := [(ro, .inr (2, [.ref o, .ref sp, .ref pe, .int Z.2.2.2.2.2, .ref na, .ref oa, .ref ra, .int (nI Z.2.2.2.2.1), .int wr, .int tw, .int co]))]) [2] rfl
  refine kq_csi (va_runV (As := [.int y]) (rest := []) ⟨hx, hb, hml, hown, hts⟩ (c_Receiver_hasTaken l dC dI cA ro sp pe na oa ra o Z.2.2.2.2.2 Z.2.2.2.2.1 wr tw co y) (cwV 1 hts (kg_V tb_268 tb_269 tb_270 tb_144 tb_267) rfl rfl rfl (by decide +kernel) ⟨Nat.le_of_ble_eq_true rfl, Nat.le_of_ble_eq_true rfl⟩) (kpv_ro hK hN hPc (ci := 2) (q0 := 0) rfl rfl rfl) rfl rfl hl.1 rfl (lv_room (Nat.le_of_ble_eq_true rfl)) dX5_taken_12 ⟨Nat.le_of_ble_eq_true rfl, Nat.le_of_ble_eq_true rfl⟩) (fun r_2 hr_2 => ?_)
  subst hr_2
  refine lv_if_eq (tgt := 27) hx hb dX5_taken_15 (by decide) (fun c_3 => ?_) (fun c_3 => ?_)
  · have c_3 : (sp_has Z.2.2.2.2.1 y) = 0 := c_3
    refine lv_iconst (v := (-1)) hx hb dX5_taken_27 (by decide) ?_
    exact W.iret (v := (-1)) hx hb hr (fun t9 ht9 hW9 => ⟨(-1), rfl, (by unfold sp_ftaken; rw [if_pos c_3] <;> rfl), ht9⟩) (fun _ h => absurd h List.not_mem_nil) dX5_taken_28
  · have c_3 : ¬ ((sp_has Z.2.2.2.2.1 y) = 0) := c_3
    refine lv_aload_n hx hb dX5_taken_18 rfl (lv_at hl 0 rfl) ?_
    refine va_getN (D := (dC, dI)) (ci := 2) (v := .ref na) (C := RX2) (T := TX2) (N := 11) hx hb hts inX2 hown hK hP 2 rfl rfl 4 (by decide) (hk_0 _) (fun _ h9 => h9) rfl dX5_taken_19 ?_
    refine lv_iload_n hx hb dX5_taken_22 rfl (lv_at hl 3 rfl) ?_
    refine va_iald (D := (dC, dI)) hx hb hK hP 3 0 rfl rfl (sp_has_in c_3 htk (by omega)) dX5_taken_23 ?_
    refine lv_goto (tgt := 28) hx hb dX5_taken_24 (by decide) ?_
    exact W.iret (v := Z.2.1 y.toNatClampNeg) hx hb hr (fun t9 ht9 hW9 => ⟨Z.2.1 y.toNatClampNeg, rfl, (by unfold sp_ftaken; rw [if_neg c_3] <;> rfl), ht9⟩) (fun _ h => absurd h List.not_mem_nil) dX5_taken_28
set_option maxHeartbeats 4000000 in
set_option maxRecDepth 100000 in
theorem c_F_isKnown_at (l : Launch) (dC : Nat → ClassId) (dI : Nat → Nat → Nat) (cA : Nat → ClassId) (fo : Nat) (wta : Nat) (soa : Nat) (rea : Nat) (fb : Nat) (ib : Nat) (cnt : Nat) (fs : Int32) (fR : Nat → Option Nat) (j : Nat) (o : Nat) (wa : Nat) (ua : Nat) (sa : Nat) (K : Nat) (P : Nat) (S : Nat) (seed : Int32) (T : Int32) (ro : Nat) (sp : Nat) (sra : Nat) (sva : Nat) (pe : Nat) (na : Nat) (oa : Nat) (ra : Nat) (wr : Int32) (tw : Int32) (co : Int32) (Z : RcT) (y : Int32) (hcnt : cnt ≤ 4) (hj : j < cnt) (hfR : fR j = some ro) : Met l yX5_isKnown (kw_X5_isKnown) ({ frames := 1, cells := 0, slots := 0, locals := 21 }) (va_Pc [.ref fo, .int (nI j), .int y] (fun U => kRO dC dI cA [(fo, .inr (5, [.ref wta, .ref soa, .ref rea, .int (nI cnt), .ref fb, .int fs, .ref ib])), (rea, .inl (cA 3, 4, .inr (.inr (.inr (.inr fR))))), (ro, .inr (2, [.ref o, .ref sp, .ref pe, .int Z.2.2.2.2.2, .ref na, .ref oa, .ref ra, .int (nI Z.2.2.2.2.1), .int wr, .int tw, .int co])), (sp, .inr (4, [.ref sra, .ref sva, .int (nI Z.1.2.2.1), .long Z.1.2.2.2.1, .long Z.1.2.2.2.2])), (sra, .inl (cA 1, 40, .inr (.inl Z.1.1))), (o, .inr (3, [.int (nI K), .int (nI P), .int (nI (K + P)), .int (nI S), .int seed, .ref wa, .int T, .ref ua, .ref sa]))] U)) (vp_Si (fun r => r = sp_fisk K P Z y)) 0 0 (fun _ => False) := by
  refine Met.ofW (cc := cX5_isKnown) (maxL := 4) (ret := (some .int)) (by decide) rfl ?_
  intro p e s m args below meth c s₁ B hml hv
  obtain ⟨rfl, hP, hK, hN⟩ := hv
  have hx := B.exec
  have hb := B.bytes
  have hr := B.returns
  have hts0 := atoms_spec (ws := (kw_X5_isKnown)) B.pre
  have hts : ∀ w ∈ TB, w.before _ s = true := fun w h => hts0 w (List.mem_cons_of_mem _ h)
  have hown : s.vm.findClass RX5 = some m.cls := findClass_of_methodNamed B.named
  have hlocks := B.notSynchronized
  have hk_0 : ∀ A9 : Array Value, (Cond.fieldLinkNest RX5 145 "FountainRows$Receiver" "origin" "LFountainRows$Source;" "FountainRows").before A9 s = true := fun _ => va_Nw.use rfl (hN.1 (RX5, 145, "FountainRows$Receiver", "origin", "LFountainRows$Source;", "FountainRows") (List.mem_of_getElem? (i := 14) rfl))
  have hk_1 : ∀ A9 : Array Value, (Cond.fieldLinkNest RX5 149 "FountainRows$Receiver" "span" "LFountainRows$Span;" "FountainRows").before A9 s = true := fun _ => va_Nw.use rfl (hN.1 (RX5, 149, "FountainRows$Receiver", "span", "LFountainRows$Span;", "FountainRows") (List.mem_of_getElem? (i := 15) rfl))
  have hl := lv_entry ([.ref fo, .int (nI j), .int y]) (n := 4) (Nat.le_of_ble_eq_true rfl)
  rw [lg_entry_eq]
  generalize (lg_sl ([.ref fo, .int (nI j), .int y]) ++ List.replicate (4 - (lg_sl ([.ref fo, .int (nI j), .int y])).length) Slot.unset).toArray = ls at hl ⊢
  have hl : lv_has ls 4 [(0, .ref fo), (1, .int (nI j)), (2, .int y)] := hl
  refine lv_aload_n hx hb dX5_isKnown_0 rfl (lv_at hl 0 rfl) ?_
  refine lv_iload_n hx hb dX5_isKnown_1 rfl (lv_at hl 1 rfl) ?_
  have hPc := hP.sub (ws' := [(fo, .inr (5, [.ref wta, .ref soa, .ref rea, .int (nI cnt), .ref fb, .int fs, .ref ib])), (rea, .inl (cA 3, 4, .inr (.inr (.inr (.inr fR)))))]) [0, 1] rfl
  refine kq_csq (va_runV (As := [.int (nI j)]) (rest := []) ⟨hx, hb, hml, hown, hts⟩ (c_FountainRows_receiverAt l dC dI cA fo wta soa rea fb ib cnt fs fR (nI j) (by first | assumption | omega)) (cwV 1 hts (kg_V tb_243 tb_244 tb_245 tb_54 tb_242) rfl rfl rfl (by decide +kernel) ⟨Nat.le_of_ble_eq_true rfl, Nat.le_of_ble_eq_true rfl⟩) (kpv_ro hK hN hPc (ci := 5) (q0 := 0) rfl rfl rfl) rfl rfl hl.1 rfl (lv_room (Nat.le_of_ble_eq_true rfl)) dX5_isKnown_2 ⟨Nat.le_of_ble_eq_true rfl, Nat.le_of_ble_eq_true rfl⟩) (fun r_1 hr_1 => ?_)
  have hr_1 : r_1 = some ro := hr_1.trans (sp_sat_at hcnt hj hfR)
  subst hr_1
  refine W.eq (g2 := F0 m 5 ls [.ref ro]) rfl ?_
  refine lv_astore_n (lv' := [(3, .ref ro), (0, .ref fo), (1, .int (nI j)), (2, .int y)]) hx hb dX5_isKnown_5 rfl hl (by decide) rfl (fun ls hl => ?_)
  refine lv_aload_n hx hb dX5_isKnown_6 rfl (lv_at hl 0 rfl) ?_
  refine lv_ifnull hx hb dX5_isKnown_7 ?_
  refine lv_aload_n hx hb dX5_isKnown_10 rfl (lv_at hl 0 rfl) ?_
  refine va_getN (D := (dC, dI)) (ci := 2) (v := .ref o) (C := RX2) (T := TX2) (N := 11) hx hb hts inX2 hown hK hP 2 rfl rfl 0 (by decide) (hk_0 _) (fun _ h9 => h9) rfl dX5_isKnown_11 ?_
  refine lv_iload_n hx hb dX5_isKnown_14 rfl (lv_at hl 3 rfl) ?_
  have hPc := hP.sub (ws' := [(o, .inr (3, [.int (nI K), .int (nI P), .int (nI (K + P)), .int (nI S), .int seed, .ref wa, .int T, .ref ua, .ref sa]))]) [5] rfl
  refine kq_csi (va_runV (As := [.int y]) (rest := []) ⟨hx, hb, hml, hown, hts⟩ (c_Source_hasPart l dC dI cA o wa ua sa K P S seed T y) (cwV 1 hts (kg_V tb_254 tb_255 tb_256 tb_45 tb_253) rfl rfl rfl (by decide +kernel) ⟨Nat.le_of_ble_eq_true rfl, Nat.le_of_ble_eq_true rfl⟩) (kpv_ro hK hN hPc (ci := 3) (q0 := 0) rfl rfl rfl) rfl rfl hl.1 rfl (lv_room (Nat.le_of_ble_eq_true rfl)) dX5_isKnown_15 ⟨Nat.le_of_ble_eq_true rfl, Nat.le_of_ble_eq_true rfl⟩) (fun r_2 hr_2 => ?_)
  subst hr_2
  refine lv_if_ne (tgt := 23) hx hb dX5_isKnown_18 (by decide) (fun c_3 => ?_) (fun c_3 => ?_)
  · have c_3 : ¬ ((sp_has (K + P) y) = 0) := c_3
    refine lv_aload_n hx hb dX5_isKnown_23 rfl (lv_at hl 0 rfl) ?_
    refine va_getN (D := (dC, dI)) (ci := 2) (v := .ref sp) (C := RX2) (T := TX2) (N := 11) hx hb hts inX2 hown hK hP 2 rfl rfl 1 (by decide) (hk_1 _) (fun _ h9 => h9) rfl dX5_isKnown_24 ?_
    refine lv_iload_n hx hb dX5_isKnown_27 rfl (lv_at hl 3 rfl) ?_
    have hPc := hP.sub (ws' := [(sp, .inr (4, [.ref sra, .ref sva, .int (nI Z.1.2.2.1), .long Z.1.2.2.2.1, .long Z.1.2.2.2.2])), (sra, .inl (cA 1, 40, .inr (.inl Z.1.1)))]) [3, 4] rfl
    refine kq_csi (va_runV (As := [.int y]) (rest := []) ⟨hx, hb, hml, hown, hts⟩ (c_Span_holdsAlone l dC dI cA sp sra sva Z.1.1 Z.1.2.2.1 Z.1.2.2.2.1 Z.1.2.2.2.2 y) (cwV 1 hts (kg_V tb_271 tb_96 tb_97 tb_98 tb_94) rfl rfl rfl (by decide +kernel) ⟨Nat.le_of_ble_eq_true rfl, Nat.le_of_ble_eq_true rfl⟩) (kpv_ro hK hN hPc (ci := 4) (q0 := 0) rfl rfl rfl) rfl rfl hl.1 rfl (lv_room (Nat.le_of_ble_eq_true rfl)) dX5_isKnown_28 ⟨Nat.le_of_ble_eq_true rfl, Nat.le_of_ble_eq_true rfl⟩) (fun r_4 hr_4 => ?_)
    subst hr_4
    refine lv_if_eq (tgt := 38) hx hb dX5_isKnown_31 (by decide) (fun c_5 => ?_) (fun c_5 => ?_)
    · have c_5 : (sp_alone Z.1.1 y) = 0 := c_5
      refine lv_iconst (v := 0) hx hb dX5_isKnown_38 (by decide) ?_
      exact W.iret (v := 0) hx hb hr (fun t9 ht9 hW9 => ⟨0, rfl, (by unfold sp_fisk; rw [if_neg c_3, if_pos c_5] <;> rfl), ht9⟩) (fun _ h => absurd h List.not_mem_nil) dX5_isKnown_39
    · have c_5 : ¬ ((sp_alone Z.1.1 y) = 0) := c_5
      refine lv_iconst (v := 1) hx hb dX5_isKnown_34 (by decide) ?_
      refine lv_goto (tgt := 39) hx hb dX5_isKnown_35 (by decide) ?_
      exact W.iret (v := 1) hx hb hr (fun t9 ht9 hW9 => ⟨1, rfl, (by unfold sp_fisk; rw [if_neg c_3, if_neg c_5] <;> rfl), ht9⟩) (fun _ h => absurd h List.not_mem_nil) dX5_isKnown_39
  · have c_3 : (sp_has (K + P) y) = 0 := c_3
    refine lv_iconst (v := (-1)) hx hb dX5_isKnown_21 (by decide) ?_
    exact W.iret (v := (-1)) hx hb hr (fun t9 ht9 hW9 => ⟨(-1), rfl, (by unfold sp_fisk; rw [if_pos c_3] <;> rfl), ht9⟩) (fun _ h => absurd h List.not_mem_nil) dX5_isKnown_22
set_option maxHeartbeats 4000000 in
set_option maxRecDepth 100000 in
theorem c_F_known_at (l : Launch) (dC : Nat → ClassId) (dI : Nat → Nat → Nat) (cA : Nat → ClassId) (fo : Nat) (wta : Nat) (soa : Nat) (rea : Nat) (fb : Nat) (ib : Nat) (cnt : Nat) (fs : Int32) (fR : Nat → Option Nat) (j : Nat) (o : Nat) (ro : Nat) (sp : Nat) (sra : Nat) (sva : Nat) (pe : Nat) (na : Nat) (oa : Nat) (ra : Nat) (wr : Int32) (tw : Int32) (co : Int32) (Z : RcT) (y : Int32) (hcnt : cnt ≤ 4) (hj : j < cnt) (hfR : fR j = some ro) : Met l yX5_known (kw_X5_known) ({ frames := 1, cells := 0, slots := 0, locals := 21 }) (va_Pc [.ref fo, .int (nI j), .int y] (fun U => kRO dC dI cA [(fo, .inr (5, [.ref wta, .ref soa, .ref rea, .int (nI cnt), .ref fb, .int fs, .ref ib])), (rea, .inl (cA 3, 4, .inr (.inr (.inr (.inr fR))))), (ro, .inr (2, [.ref o, .ref sp, .ref pe, .int Z.2.2.2.2.2, .ref na, .ref oa, .ref ra, .int (nI Z.2.2.2.2.1), .int wr, .int tw, .int co])), (sp, .inr (4, [.ref sra, .ref sva, .int (nI Z.1.2.2.1), .long Z.1.2.2.2.1, .long Z.1.2.2.2.2])), (sra, .inl (cA 1, 40, .inr (.inl Z.1.1))), (sva, .inl (cA 1, 40, .inr (.inl Z.1.2.1)))] U)) (vp_Sl (fun r => r = sp_fkn Z y)) 0 0 (fun _ => False) := by
  refine Met.ofW (cc := cX5_known) (maxL := 4) (ret := (some .long)) (by decide) rfl ?_
  intro p e s m args below meth c s₁ B hml hv
  obtain ⟨rfl, hP, hK, hN⟩ := hv
  have hx := B.exec
  have hb := B.bytes
  have hr := B.returns
  have hts0 := atoms_spec (ws := (kw_X5_known)) B.pre
  have hts : ∀ w ∈ TB, w.before _ s = true := fun w h => hts0 w (List.mem_cons_of_mem _ h)
  have hown : s.vm.findClass RX5 = some m.cls := findClass_of_methodNamed B.named
  have hlocks := B.notSynchronized
  have hk_0 : ∀ A9 : Array Value, (Cond.fieldLinkNest RX5 149 "FountainRows$Receiver" "span" "LFountainRows$Span;" "FountainRows").before A9 s = true := fun _ => va_Nw.use rfl (hN.1 (RX5, 149, "FountainRows$Receiver", "span", "LFountainRows$Span;", "FountainRows") (List.mem_of_getElem? (i := 15) rfl))
  have hk_1 : ∀ A9 : Array Value, (Cond.fieldLinkNest RX5 158 "FountainRows$Span" "values" "[J" "FountainRows").before A9 s = true := fun _ => va_Nw.use rfl (hN.1 (RX5, 158, "FountainRows$Span", "values", "[J", "FountainRows") (List.mem_of_getElem? (i := 8) rfl))
  have hl := lv_entry ([.ref fo, .int (nI j), .int y]) (n := 4) (Nat.le_of_ble_eq_true rfl)
  rw [lg_entry_eq]
  generalize (lg_sl ([.ref fo, .int (nI j), .int y]) ++ List.replicate (4 - (lg_sl ([.ref fo, .int (nI j), .int y])).length) Slot.unset).toArray = ls at hl ⊢
  have hl : lv_has ls 4 [(0, .ref fo), (1, .int (nI j)), (2, .int y)] := hl
  refine lv_aload_n hx hb dX5_known_0 rfl (lv_at hl 0 rfl) ?_
  refine lv_iload_n hx hb dX5_known_1 rfl (lv_at hl 1 rfl) ?_
  have hPc := hP.sub (ws' := [(fo, .inr (5, [.ref wta, .ref soa, .ref rea, .int (nI cnt), .ref fb, .int fs, .ref ib])), (rea, .inl (cA 3, 4, .inr (.inr (.inr (.inr fR)))))]) [0, 1] rfl
  refine kq_csq (va_runV (As := [.int (nI j)]) (rest := []) ⟨hx, hb, hml, hown, hts⟩ (c_FountainRows_receiverAt l dC dI cA fo wta soa rea fb ib cnt fs fR (nI j) (by first | assumption | omega)) (cwV 1 hts (kg_V tb_243 tb_244 tb_245 tb_54 tb_242) rfl rfl rfl (by decide +kernel) ⟨Nat.le_of_ble_eq_true rfl, Nat.le_of_ble_eq_true rfl⟩) (kpv_ro hK hN hPc (ci := 5) (q0 := 0) rfl rfl rfl) rfl rfl hl.1 rfl (lv_room (Nat.le_of_ble_eq_true rfl)) dX5_known_2 ⟨Nat.le_of_ble_eq_true rfl, Nat.le_of_ble_eq_true rfl⟩) (fun r_1 hr_1 => ?_)
  have hr_1 : r_1 = some ro := hr_1.trans (sp_sat_at hcnt hj hfR)
  subst hr_1
  refine W.eq (g2 := F0 m 5 ls [.ref ro]) rfl ?_
  refine lv_astore_n (lv' := [(3, .ref ro), (0, .ref fo), (1, .int (nI j)), (2, .int y)]) hx hb dX5_known_5 rfl hl (by decide) rfl (fun ls hl => ?_)
  refine lv_aload_n hx hb dX5_known_6 rfl (lv_at hl 0 rfl) ?_
  refine lv_ifnull hx hb dX5_known_7 ?_
  refine lv_aload_n hx hb dX5_known_10 rfl (lv_at hl 0 rfl) ?_
  refine va_getN (D := (dC, dI)) (ci := 2) (v := .ref sp) (C := RX2) (T := TX2) (N := 11) hx hb hts inX2 hown hK hP 2 rfl rfl 1 (by decide) (hk_0 _) (fun _ h9 => h9) rfl dX5_known_11 ?_
  refine lv_iload_n hx hb dX5_known_14 rfl (lv_at hl 3 rfl) ?_
  have hPc := hP.sub (ws' := [(sp, .inr (4, [.ref sra, .ref sva, .int (nI Z.1.2.2.1), .long Z.1.2.2.2.1, .long Z.1.2.2.2.2])), (sra, .inl (cA 1, 40, .inr (.inl Z.1.1)))]) [3, 4] rfl
  refine kq_csi (va_runV (As := [.int y]) (rest := []) ⟨hx, hb, hml, hown, hts⟩ (c_Span_holdsAlone l dC dI cA sp sra sva Z.1.1 Z.1.2.2.1 Z.1.2.2.2.1 Z.1.2.2.2.2 y) (cwV 1 hts (kg_V tb_271 tb_96 tb_97 tb_98 tb_94) rfl rfl rfl (by decide +kernel) ⟨Nat.le_of_ble_eq_true rfl, Nat.le_of_ble_eq_true rfl⟩) (kpv_ro hK hN hPc (ci := 4) (q0 := 0) rfl rfl rfl) rfl rfl hl.1 rfl (lv_room (Nat.le_of_ble_eq_true rfl)) dX5_known_15 ⟨Nat.le_of_ble_eq_true rfl, Nat.le_of_ble_eq_true rfl⟩) (fun r_2 hr_2 => ?_)
  subst hr_2
  refine lv_if_eq (tgt := 33) hx hb dX5_known_18 (by decide) (fun c_3 => ?_) (fun c_3 => ?_)
  · have c_3 : (sp_alone Z.1.1 y) = 0 := c_3
    refine lv_lconst (v := 0) hx hb dX5_known_33 (by decide) ?_
    exact W.lret (v := 0) hx hb hr (fun t9 ht9 hW9 => ⟨0, rfl, (by unfold sp_fkn; rw [if_pos c_3] <;> rfl), ht9⟩) (fun _ h => absurd h List.not_mem_nil) dX5_known_34
  · have c_3 : ¬ ((sp_alone Z.1.1 y) = 0) := c_3
    refine lv_aload_n hx hb dX5_known_21 rfl (lv_at hl 0 rfl) ?_
    refine va_getN (D := (dC, dI)) (ci := 2) (v := .ref sp) (C := RX2) (T := TX2) (N := 11) hx hb hts inX2 hown hK hP 2 rfl rfl 1 (by decide) (hk_0 _) (fun _ h9 => h9) rfl dX5_known_22 ?_
    refine va_getN (D := (dC, dI)) (ci := 4) (v := .ref sva) (C := RX4) (T := TX4) (N := 5) hx hb hts inX4 hown hK hP 3 rfl rfl 1 (by decide) (hk_1 _) (fun _ h9 => h9) rfl dX5_known_25 ?_
    refine lv_iload_n hx hb dX5_known_28 rfl (lv_at hl 3 rfl) ?_
    refine va_lald (D := (dC, dI)) hx hb hK hP 5 1 rfl rfl (sp_alone_in c_3) dX5_known_29 ?_
    refine lv_goto (tgt := 34) hx hb dX5_known_30 (by decide) ?_
    exact W.lret (v := Z.1.2.1 y.toNatClampNeg) hx hb hr (fun t9 ht9 hW9 => ⟨Z.1.2.1 y.toNatClampNeg, rfl, (by unfold sp_fkn; rw [if_neg c_3] <;> rfl), ht9⟩) (fun _ h => absurd h List.not_mem_nil) dX5_known_34
set_option maxHeartbeats 4000000 in
set_option maxRecDepth 100000 in
theorem c_F_peeled_at (l : Launch) (dC : Nat → ClassId) (dI : Nat → Nat → Nat) (cA : Nat → ClassId) (sz : Nat) (fo : Nat) (wta : Nat) (soa : Nat) (rea : Nat) (fb : Nat) (ib : Nat) (cnt : Nat) (fs : Int32) (fR : Nat → Option Nat) (j : Nat) (o : Nat) (wa : Nat) (ua : Nat) (sa : Nat) (K : Nat) (P : Nat) (S : Nat) (seed : Int32) (T : Int32) (ro : Nat) (sp : Nat) (pe : Nat) (na : Nat) (oa : Nat) (ra : Nat) (wr : Int32) (tw : Int32) (co : Int32) (Z : RcT) (Pl : Int64 × Int64 × Int64) (y : Int32) (hcnt : cnt ≤ 4) (hj : j < cnt) (hfR : fR j = some ro) (hK32 : K ≤ 32) (hP8 : P ≤ 8) (hK1 : 1 ≤ K) (htk : Z.2.2.2.2.1 ≤ 64) : Met l yX5_peeled (kw_X5_peeled) ({ frames := 6, cells := 0, slots := 0, locals := 142 }) (va_Pc [.ref fo, .int (nI j), .int y] (fun U => kRW dC dI cA [(fo, .inr (5, [.ref wta, .ref soa, .ref rea, .int (nI cnt), .ref fb, .int fs, .ref ib])), (rea, .inl (cA 3, 4, .inr (.inr (.inr (.inr fR))))), (ro, .inr (2, [.ref o, .ref sp, .ref pe, .int Z.2.2.2.2.2, .ref na, .ref oa, .ref ra, .int (nI Z.2.2.2.2.1), .int wr, .int tw, .int co])), (pe, .inr (1, [.long Pl.1, .long Pl.2.1, .long Pl.2.2])), (ra, .inl (cA 1, 72, .inr (.inl Z.2.2.2.1))), (o, .inr (3, [.int (nI K), .int (nI P), .int (nI (K + P)), .int (nI S), .int seed, .ref wa, .int T, .ref ua, .ref sa]))] sz U)) (va_Qi (fun r (u : Unit) => r = sp_fpl K P (sp_fresh Z.2.2.2.2.2 Z.2.2.2.1 (P + Z.2.2.2.2.1) (K + P) Pl) y) (fun (u : Unit) t => kB dC dI (va_A [(fo, .inr (5, [.ref wta, .ref soa, .ref rea, .int (nI cnt), .ref fb, .int fs, .ref ib])), (rea, .inl (cA 3, 4, .inr (.inr (.inr (.inr fR))))), (ro, .inr (2, [.ref o, .ref sp, .ref pe, .int Z.2.2.2.2.2, .ref na, .ref oa, .ref ra, .int (nI Z.2.2.2.2.1), .int wr, .int tw, .int co])), (pe, .inr (1, [.long Pl.1, .long Pl.2.1, .long Pl.2.2])), (ra, .inl (cA 1, 72, .inr (.inl Z.2.2.2.1))), (o, .inr (3, [.int (nI K), .int (nI P), .int (nI (K + P)), .int (nI S), .int seed, .ref wa, .int T, .ref ua, .ref sa]))] sz) [(fo, .inr (5, [.ref wta, .ref soa, .ref rea, .int (nI cnt), .ref fb, .int fs, .ref ib])), (rea, .inl (cA 3, 4, .inr (.inr (.inr (.inr fR))))), (ro, .inr (2, [.ref o, .ref sp, .ref pe, .int (sp_fplo K P Z.2.2.2.2.2 y), .ref na, .ref oa, .ref ra, .int (nI Z.2.2.2.2.1), .int wr, .int tw, .int co])), (pe, .inr (1, [.long ((sp_fplp K P Pl (sp_fresh Z.2.2.2.2.2 Z.2.2.2.1 (P + Z.2.2.2.2.1) (K + P) Pl) y).1), .long ((sp_fplp K P Pl (sp_fresh Z.2.2.2.2.2 Z.2.2.2.1 (P + Z.2.2.2.2.1) (K + P) Pl) y).2.1), .long ((sp_fplp K P Pl (sp_fresh Z.2.2.2.2.2 Z.2.2.2.1 (P + Z.2.2.2.2.1) (K + P) Pl) y).2.2)])), (ra, .inl (cA 1, 72, .inr (.inl Z.2.2.2.1))), (o, .inr (3, [.int (nI K), .int (nI P), .int (nI (K + P)), .int (nI S), .int seed, .ref wa, .int T, .ref ua, .ref sa]))] t) (va_A [(fo, .inr (5, [.ref wta, .ref soa, .ref rea, .int (nI cnt), .ref fb, .int fs, .ref ib])), (rea, .inl (cA 3, 4, .inr (.inr (.inr (.inr fR))))), (ro, .inr (2, [.ref o, .ref sp, .ref pe, .int Z.2.2.2.2.2, .ref na, .ref oa, .ref ra, .int (nI Z.2.2.2.2.1), .int wr, .int tw, .int co])), (pe, .inr (1, [.long Pl.1, .long Pl.2.1, .long Pl.2.2])), (ra, .inl (cA 1, 72, .inr (.inl Z.2.2.2.1))), (o, .inr (3, [.int (nI K), .int (nI P), .int (nI (K + P)), .int (nI S), .int seed, .ref wa, .int T, .ref ua, .ref sa]))] sz)) 0 0 (va_A [(fo, .inr (5, [.ref wta, .ref soa, .ref rea, .int (nI cnt), .ref fb, .int fs, .ref ib])), (rea, .inl (cA 3, 4, .inr (.inr (.inr (.inr fR))))), (ro, .inr (2, [.ref o, .ref sp, .ref pe, .int Z.2.2.2.2.2, .ref na, .ref oa, .ref ra, .int (nI Z.2.2.2.2.1), .int wr, .int tw, .int co])), (pe, .inr (1, [.long Pl.1, .long Pl.2.1, .long Pl.2.2])), (ra, .inl (cA 1, 72, .inr (.inl Z.2.2.2.1))), (o, .inr (3, [.int (nI K), .int (nI P), .int (nI (K + P)), .int (nI S), .int seed, .ref wa, .int T, .ref ua, .ref sa]))] sz) := by
  refine Met.ofW (cc := cX5_peeled) (maxL := 4) (ret := (some .int)) (by decide) rfl ?_
  intro p e s m args below meth c s₁ B hml hv
  obtain ⟨rfl, hsz, hP, hK, hN, hD0⟩ := hv
  have hx := B.exec
  have hb := B.bytes
  have hr := B.returns
  have hts0 := atoms_spec (ws := (kw_X5_peeled)) B.pre
  have hts : ∀ w ∈ TB, w.before _ s = true := fun w h => hts0 w (List.mem_cons_of_mem _ h)
  have hown : s.vm.findClass RX5 = some m.cls := findClass_of_methodNamed B.named
  have hlocks := B.notSynchronized
  subst hsz
  have hD := hD0.self (sz := s.heap.size)
  generalize hAe : va_A [(fo, .inr (5, [.ref wta, .ref soa, .ref rea, .int (nI cnt), .ref fb, .int fs, .ref ib])), (rea, .inl (cA 3, 4, .inr (.inr (.inr (.inr fR))))), (ro, .inr (2, [.ref o, .ref sp, .ref pe, .int Z.2.2.2.2.2, .ref na, .ref oa, .ref ra, .int (nI Z.2.2.2.2.1), .int wr, .int tw, .int co])), (pe, .inr (1, [.long Pl.1, .long Pl.2.1, .long Pl.2.2])), (ra, .inl (cA 1, 72, .inr (.inl Z.2.2.2.1))), (o, .inr (3, [.int (nI K), .int (nI P), .int (nI (K + P)), .int (nI S), .int seed, .ref wa, .int T, .ref ua, .ref sa]))] s.heap.size = A at hD ⊢
  have hA : ∀ q : Nat, s.heap.size ≤ q → A q := fun q h => by rw [← hAe]; exact Or.inr h
  have hS : va_S A s.heap s.heap [] := va_S.rf
  have hk_0 : ∀ A9 : Array Value, (Cond.fieldLinkNest RX5 145 "FountainRows$Receiver" "origin" "LFountainRows$Source;" "FountainRows").before A9 s = true := fun _ => va_Nw.use rfl (hN.1 (RX5, 145, "FountainRows$Receiver", "origin", "LFountainRows$Source;", "FountainRows") (List.mem_of_getElem? (i := 14) rfl))
  have hl := lv_entry ([.ref fo, .int (nI j), .int y]) (n := 4) (Nat.le_of_ble_eq_true rfl)
  rw [lg_entry_eq]
  generalize (lg_sl ([.ref fo, .int (nI j), .int y]) ++ List.replicate (4 - (lg_sl ([.ref fo, .int (nI j), .int y])).length) Slot.unset).toArray = ls at hl ⊢
  have hl : lv_has ls 4 [(0, .ref fo), (1, .int (nI j)), (2, .int y)] := hl
  refine lv_aload_n hx hb dX5_peeled_0 rfl (lv_at hl 0 rfl) ?_
  refine lv_iload_n hx hb dX5_peeled_1 rfl (lv_at hl 1 rfl) ?_
  have hPc := hP.sub (ws' := [(fo, .inr (5, [.ref wta, .ref soa, .ref rea, .int (nI cnt), .ref fb, .int fs, .ref ib])), (rea, .inl (cA 3, 4, .inr (.inr (.inr (.inr fR)))))]) [0, 1] rfl
  refine kq_csq (va_runV (As := [.int (nI j)]) (rest := []) ⟨hx, hb, hml, hown, hts⟩ (c_FountainRows_receiverAt l dC dI cA fo wta soa rea fb ib cnt fs fR (nI j) (by first | assumption | omega)) (cwV 1 hts (kg_V tb_243 tb_244 tb_245 tb_54 tb_242) rfl rfl rfl (by decide +kernel) ⟨Nat.le_of_ble_eq_true rfl, Nat.le_of_ble_eq_true rfl⟩) (kpv_ro hK hN hPc (ci := 5) (q0 := 0) rfl rfl rfl) rfl rfl hl.1 rfl (lv_room (Nat.le_of_ble_eq_true rfl)) dX5_peeled_2 ⟨Nat.le_of_ble_eq_true rfl, Nat.le_of_ble_eq_true rfl⟩) (fun r_1 hr_1 => ?_)
  have hr_1 : r_1 = some ro := hr_1.trans (sp_sat_at hcnt hj hfR)
  subst hr_1
  refine W.eq (g2 := F0 m 5 ls [.ref ro]) rfl ?_
  refine lv_astore_n (lv' := [(3, .ref ro), (0, .ref fo), (1, .int (nI j)), (2, .int y)]) hx hb dX5_peeled_5 rfl hl (by decide) rfl (fun ls hl => ?_)
  refine lv_aload_n hx hb dX5_peeled_6 rfl (lv_at hl 0 rfl) ?_
  refine lv_ifnull hx hb dX5_peeled_7 ?_
  refine lv_aload_n hx hb dX5_peeled_10 rfl (lv_at hl 0 rfl) ?_
  refine va_getN (D := (dC, dI)) (ci := 2) (v := .ref o) (C := RX2) (T := TX2) (N := 11) hx hb hts inX2 hown hK hP 2 rfl rfl 0 (by decide) (hk_0 _) (fun _ h9 => h9) rfl dX5_peeled_11 ?_
  refine lv_iload_n hx hb dX5_peeled_14 rfl (lv_at hl 3 rfl) ?_
  have hPc := hP.sub (ws' := [(o, .inr (3, [.int (nI K), .int (nI P), .int (nI (K + P)), .int (nI S), .int seed, .ref wa, .int T, .ref ua, .ref sa]))]) [5] rfl
  refine kq_csi (va_runV (As := [.int y]) (rest := []) ⟨hx, hb, hml, hown, hts⟩ (c_Source_hasPart l dC dI cA o wa ua sa K P S seed T y) (cwV 1 hts (kg_V tb_254 tb_255 tb_256 tb_45 tb_253) rfl rfl rfl (by decide +kernel) ⟨Nat.le_of_ble_eq_true rfl, Nat.le_of_ble_eq_true rfl⟩) (kpv_ro hK hN hPc (ci := 3) (q0 := 0) rfl rfl rfl) rfl rfl hl.1 rfl (lv_room (Nat.le_of_ble_eq_true rfl)) dX5_peeled_15 ⟨Nat.le_of_ble_eq_true rfl, Nat.le_of_ble_eq_true rfl⟩) (fun r_2 hr_2 => ?_)
  subst hr_2
  refine lv_if_eq (tgt := 29) hx hb dX5_peeled_18 (by decide) (fun c_3 => ?_) (fun c_3 => ?_)
  · have c_3 : (sp_has (K + P) y) = 0 := c_3
    have hn0 := c_3
    refine lv_iconst (v := (-1)) hx hb dX5_peeled_29 (by decide) ?_
    have hP9 := hP.sub (ws' := [(fo, .inr (5, [.ref wta, .ref soa, .ref rea, .int (nI cnt), .ref fb, .int fs, .ref ib])), (rea, .inl (cA 3, 4, .inr (.inr (.inr (.inr fR))))), (ro, .inr (2, [.ref o, .ref sp, .ref pe, .int Z.2.2.2.2.2, .ref na, .ref oa, .ref ra, .int (nI Z.2.2.2.2.1), .int wr, .int tw, .int co])), (pe, .inr (1, [.long Pl.1, .long Pl.2.1, .long Pl.2.2])), (ra, .inl (cA 1, 72, .inr (.inl Z.2.2.2.1))), (o, .inr (3, [.int (nI K), .int (nI P), .int (nI (K + P)), .int (nI S), .int seed, .ref wa, .int T, .ref ua, .ref sa]))]) [0, 1, 2, 3, 4, 5] rfl
    have hD9 := hD.sub (ws' := [(fo, .inr (5, [.ref wta, .ref soa, .ref rea, .int (nI cnt), .ref fb, .int fs, .ref ib])), (rea, .inl (cA 3, 4, .inr (.inr (.inr (.inr fR))))), (ro, .inr (2, [.ref o, .ref sp, .ref pe, .int Z.2.2.2.2.2, .ref na, .ref oa, .ref ra, .int (nI Z.2.2.2.2.1), .int wr, .int tw, .int co])), (pe, .inr (1, [.long Pl.1, .long Pl.2.1, .long Pl.2.2])), (ra, .inl (cA 1, 72, .inr (.inl Z.2.2.2.1))), (o, .inr (3, [.int (nI K), .int (nI P), .int (nI (K + P)), .int (nI S), .int seed, .ref wa, .int T, .ref ua, .ref sa]))]) [0, 1, 2, 3, 4, 5] (by decide) rfl
    have e9_0 : (sp_fplo K P Z.2.2.2.2.2 y) = Z.2.2.2.2.2 := (by first | (unfold sp_fplo; first | rw [if_pos hn0] | rw [if_neg hn0]) | (unfold sp_fplp; first | rw [if_pos hn0] | rw [if_neg hn0]))
    have e9_1 : (sp_fplp K P Pl (sp_fresh Z.2.2.2.2.2 Z.2.2.2.1 (P + Z.2.2.2.2.1) (K + P) Pl) y).1 = Pl.1 := (by first | (unfold sp_fplo; first | rw [if_pos hn0] | rw [if_neg hn0]) | (unfold sp_fplp; first | rw [if_pos hn0] | rw [if_neg hn0]))
    have e9_2 : (sp_fplp K P Pl (sp_fresh Z.2.2.2.2.2 Z.2.2.2.1 (P + Z.2.2.2.2.1) (K + P) Pl) y).2.1 = Pl.2.1 := (by first | (unfold sp_fplo; first | rw [if_pos hn0] | rw [if_neg hn0]) | (unfold sp_fplp; first | rw [if_pos hn0] | rw [if_neg hn0]))
    have e9_3 : (sp_fplp K P Pl (sp_fresh Z.2.2.2.2.2 Z.2.2.2.1 (P + Z.2.2.2.2.1) (K + P) Pl) y).2.2 = Pl.2.2 := (by first | (unfold sp_fplo; first | rw [if_pos hn0] | rw [if_neg hn0]) | (unfold sp_fplp; first | rw [if_pos hn0] | rw [if_neg hn0]))
    have e9 : ([(fo, .inr (5, [.ref wta, .ref soa, .ref rea, .int (nI cnt), .ref fb, .int fs, .ref ib])), (rea, .inl (cA 3, 4, .inr (.inr (.inr (.inr fR))))), (ro, .inr (2, [.ref o, .ref sp, .ref pe, .int (sp_fplo K P Z.2.2.2.2.2 y), .ref na, .ref oa, .ref ra, .int (nI Z.2.2.2.2.1), .int wr, .int tw, .int co])), (pe, .inr (1, [.long ((sp_fplp K P Pl (sp_fresh Z.2.2.2.2.2 Z.2.2.2.1 (P + Z.2.2.2.2.1) (K + P) Pl) y).1), .long ((sp_fplp K P Pl (sp_fresh Z.2.2.2.2.2 Z.2.2.2.1 (P + Z.2.2.2.2.1) (K + P) Pl) y).2.1), .long ((sp_fplp K P Pl (sp_fresh Z.2.2.2.2.2 Z.2.2.2.1 (P + Z.2.2.2.2.1) (K + P) Pl) y).2.2)])), (ra, .inl (cA 1, 72, .inr (.inl Z.2.2.2.1))), (o, .inr (3, [.int (nI K), .int (nI P), .int (nI (K + P)), .int (nI S), .int seed, .ref wa, .int T, .ref ua, .ref sa]))] : va_W) = [(fo, .inr (5, [.ref wta, .ref soa, .ref rea, .int (nI cnt), .ref fb, .int fs, .ref ib])), (rea, .inl (cA 3, 4, .inr (.inr (.inr (.inr fR))))), (ro, .inr (2, [.ref o, .ref sp, .ref pe, .int Z.2.2.2.2.2, .ref na, .ref oa, .ref ra, .int (nI Z.2.2.2.2.1), .int wr, .int tw, .int co])), (pe, .inr (1, [.long Pl.1, .long Pl.2.1, .long Pl.2.2])), (ra, .inl (cA 1, 72, .inr (.inl Z.2.2.2.1))), (o, .inr (3, [.int (nI K), .int (nI P), .int (nI (K + P)), .int (nI S), .int seed, .ref wa, .int T, .ref ua, .ref sa]))] := by rw [e9_0, e9_1, e9_2, e9_3]
    exact W.iret (v := (-1)) hx hb hr (fun t9 ht9 hW9 => ⟨⟨(-1), (), rfl, (by unfold sp_fpl; first | rw [if_pos hn0] | rw [if_neg hn0]), by rw [ht9, e9]; exact hP9, by rw [e9]; exact hD9⟩, hS.F ht9⟩) hS.2.2 dX5_peeled_30
  · have c_3 : ¬ ((sp_has (K + P) y) = 0) := c_3
    have hn0 := c_3
    refine lv_aload_n hx hb dX5_peeled_21 rfl (lv_at hl 0 rfl) ?_
    refine lv_iload_n hx hb dX5_peeled_22 rfl (lv_at hl 3 rfl) ?_
    have hPc := hP.sub (ws' := [(ro, .inr (2, [.ref o, .ref sp, .ref pe, .int Z.2.2.2.2.2, .ref na, .ref oa, .ref ra, .int (nI Z.2.2.2.2.1), .int wr, .int tw, .int co])), (pe, .inr (1, [.long Pl.1, .long Pl.2.1, .long Pl.2.2])), (ra, .inl (cA 1, 72, .inr (.inl Z.2.2.2.1))), (o, .inr (3, [.int (nI K), .int (nI P), .int (nI (K + P)), .int (nI S), .int seed, .ref wa, .int T, .ref ua, .ref sa]))]) [2, 3, 4, 5] rfl
    have hDc := hD.sub (ws' := [(ro, .inr (2, [.ref o, .ref sp, .ref pe, .int Z.2.2.2.2.2, .ref na, .ref oa, .ref ra, .int (nI Z.2.2.2.2.1), .int wr, .int tw, .int co])), (pe, .inr (1, [.long Pl.1, .long Pl.2.1, .long Pl.2.2])), (ra, .inl (cA 1, 72, .inr (.inl Z.2.2.2.1))), (o, .inr (3, [.int (nI K), .int (nI P), .int (nI (K + P)), .int (nI S), .int seed, .ref wa, .int T, .ref ua, .ref sa]))]) [2, 3, 4, 5] (by decide) rfl
    have hFc := va_free (wc := [(ro, .inr (2, [.ref o, .ref sp, .ref pe, .int Z.2.2.2.2.2, .ref na, .ref oa, .ref ra, .int (nI Z.2.2.2.2.1), .int wr, .int tw, .int co])), (pe, .inr (1, [.long Pl.1, .long Pl.2.1, .long Pl.2.2])), (ra, .inl (cA 1, 72, .inr (.inl Z.2.2.2.1))), (o, .inr (3, [.int (nI K), .int (nI P), .int (nI (K + P)), .int (nI S), .int seed, .ref wa, .int T, .ref ua, .ref sa]))]) hD hS hA [2, 3, 4, 5] rfl
    refine va_calli (va_runV (As := [.int y]) (rest := []) ⟨hx, hb, hml, hown, hts⟩ (c_Receiver_peelingOf l dC dI cA s.heap.size ro sp pe na oa ra o wa ua sa K P S seed T Z.2.2.2.2.2 Z.2.2.2.2.1 wr tw co Pl Z.2.2.2.1 y (by first | assumption | omega) (by first | assumption | omega) (by first | assumption | omega)) (cwV 1 hts (kg_V tb_273 tb_274 tb_275 tb_144 tb_272) rfl rfl rfl (by decide +kernel) ⟨Nat.le_of_ble_eq_true rfl, Nat.le_of_ble_eq_true rfl⟩) (kpv_rw hK hN hPc hDc (ci := 2) (q0 := 0) rfl rfl rfl) rfl rfl hl.1 rfl (lv_room (Nat.le_of_ble_eq_true rfl)) dX5_peeled_23 ⟨Nat.le_of_ble_eq_true rfl, Nat.le_of_ble_eq_true rfl⟩) hS (fun q _ h => hFc q h) hFc (fun r_4 u9 t9 H1 locs ht9 hvm9 hr_4 hB hz1 hk1 hS => ?_)
    obtain ⟨hP1, hD1⟩ := hB
    rw [ht9] at hP1
    obtain ⟨hP, hD⟩ := va_join (wr := [(fo, .inr (5, [.ref wta, .ref soa, .ref rea, .int (nI cnt), .ref fb, .int fs, .ref ib])), (rea, .inl (cA 3, 4, .inr (.inr (.inr (.inr fR)))))]) (w1 := [(ro, .inr (2, [.ref o, .ref sp, .ref pe, .int 0, .ref na, .ref oa, .ref ra, .int (nI Z.2.2.2.2.1), .int wr, .int tw, .int co])), (pe, .inr (1, [.long ((sp_fresh Z.2.2.2.2.2 Z.2.2.2.1 (P + Z.2.2.2.2.1) (K + P) Pl).1), .long ((sp_fresh Z.2.2.2.2.2 Z.2.2.2.1 (P + Z.2.2.2.2.1) (K + P) Pl).2.1), .long ((sp_fresh Z.2.2.2.2.2 Z.2.2.2.1 (P + Z.2.2.2.2.1) (K + P) Pl).2.2)])), (ra, .inl (cA 1, 72, .inr (.inl Z.2.2.2.1))), (o, .inr (3, [.int (nI K), .int (nI P), .int (nI (K + P)), .int (nI S), .int seed, .ref wa, .int T, .ref ua, .ref sa]))]) hP hD [2, 3, 4, 5] [0, 1] rfl rfl (by decide) (by decide) hk1 hFc hP1 hD1
    generalize H1 = H at hP hS ⊢
    have hP : va_P (dC, dI) vwCl [(fo, .inr (5, [.ref wta, .ref soa, .ref rea, .int (nI cnt), .ref fb, .int fs, .ref ib])), (rea, .inl (cA 3, 4, .inr (.inr (.inr (.inr fR))))), (ro, .inr (2, [.ref o, .ref sp, .ref pe, .int 0, .ref na, .ref oa, .ref ra, .int (nI Z.2.2.2.2.1), .int wr, .int tw, .int co])), (pe, .inr (1, [.long ((sp_fresh Z.2.2.2.2.2 Z.2.2.2.1 (P + Z.2.2.2.2.1) (K + P) Pl).1), .long ((sp_fresh Z.2.2.2.2.2 Z.2.2.2.1 (P + Z.2.2.2.2.1) (K + P) Pl).2.1), .long ((sp_fresh Z.2.2.2.2.2 Z.2.2.2.1 (P + Z.2.2.2.2.1) (K + P) Pl).2.2)])), (ra, .inl (cA 1, 72, .inr (.inl Z.2.2.2.1))), (o, .inr (3, [.int (nI K), .int (nI P), .int (nI (K + P)), .int (nI S), .int seed, .ref wa, .int T, .ref ua, .ref sa]))] H := hP
    have hD : va_D A [(fo, .inr (5, [.ref wta, .ref soa, .ref rea, .int (nI cnt), .ref fb, .int fs, .ref ib])), (rea, .inl (cA 3, 4, .inr (.inr (.inr (.inr fR))))), (ro, .inr (2, [.ref o, .ref sp, .ref pe, .int 0, .ref na, .ref oa, .ref ra, .int (nI Z.2.2.2.2.1), .int wr, .int tw, .int co])), (pe, .inr (1, [.long ((sp_fresh Z.2.2.2.2.2 Z.2.2.2.1 (P + Z.2.2.2.2.1) (K + P) Pl).1), .long ((sp_fresh Z.2.2.2.2.2 Z.2.2.2.1 (P + Z.2.2.2.2.1) (K + P) Pl).2.1), .long ((sp_fresh Z.2.2.2.2.2 Z.2.2.2.1 (P + Z.2.2.2.2.1) (K + P) Pl).2.2)])), (ra, .inl (cA 1, 72, .inr (.inl Z.2.2.2.1))), (o, .inr (3, [.int (nI K), .int (nI P), .int (nI (K + P)), .int (nI S), .int seed, .ref wa, .int T, .ref ua, .ref sa]))] := hD
    subst hr_4
    refine lv_goto (tgt := 30) hx hb dX5_peeled_26 (by decide) ?_
    have hP9 := hP.sub (ws' := [(fo, .inr (5, [.ref wta, .ref soa, .ref rea, .int (nI cnt), .ref fb, .int fs, .ref ib])), (rea, .inl (cA 3, 4, .inr (.inr (.inr (.inr fR))))), (ro, .inr (2, [.ref o, .ref sp, .ref pe, .int 0, .ref na, .ref oa, .ref ra, .int (nI Z.2.2.2.2.1), .int wr, .int tw, .int co])), (pe, .inr (1, [.long ((sp_fresh Z.2.2.2.2.2 Z.2.2.2.1 (P + Z.2.2.2.2.1) (K + P) Pl).1), .long ((sp_fresh Z.2.2.2.2.2 Z.2.2.2.1 (P + Z.2.2.2.2.1) (K + P) Pl).2.1), .long ((sp_fresh Z.2.2.2.2.2 Z.2.2.2.1 (P + Z.2.2.2.2.1) (K + P) Pl).2.2)])), (ra, .inl (cA 1, 72, .inr (.inl Z.2.2.2.1))), (o, .inr (3, [.int (nI K), .int (nI P), .int (nI (K + P)), .int (nI S), .int seed, .ref wa, .int T, .ref ua, .ref sa]))]) [0, 1, 2, 3, 4, 5] rfl
    have hD9 := hD.sub (ws' := [(fo, .inr (5, [.ref wta, .ref soa, .ref rea, .int (nI cnt), .ref fb, .int fs, .ref ib])), (rea, .inl (cA 3, 4, .inr (.inr (.inr (.inr fR))))), (ro, .inr (2, [.ref o, .ref sp, .ref pe, .int 0, .ref na, .ref oa, .ref ra, .int (nI Z.2.2.2.2.1), .int wr, .int tw, .int co])), (pe, .inr (1, [.long ((sp_fresh Z.2.2.2.2.2 Z.2.2.2.1 (P + Z.2.2.2.2.1) (K + P) Pl).1), .long ((sp_fresh Z.2.2.2.2.2 Z.2.2.2.1 (P + Z.2.2.2.2.1) (K + P) Pl).2.1), .long ((sp_fresh Z.2.2.2.2.2 Z.2.2.2.1 (P + Z.2.2.2.2.1) (K + P) Pl).2.2)])), (ra, .inl (cA 1, 72, .inr (.inl Z.2.2.2.1))), (o, .inr (3, [.int (nI K), .int (nI P), .int (nI (K + P)), .int (nI S), .int seed, .ref wa, .int T, .ref ua, .ref sa]))]) [0, 1, 2, 3, 4, 5] (by decide) rfl
    have e9_0 : (sp_fplo K P Z.2.2.2.2.2 y) = 0 := (by first | (unfold sp_fplo; first | rw [if_pos hn0] | rw [if_neg hn0]) | (unfold sp_fplp; first | rw [if_pos hn0] | rw [if_neg hn0]))
    have e9_1 : (sp_fplp K P Pl (sp_fresh Z.2.2.2.2.2 Z.2.2.2.1 (P + Z.2.2.2.2.1) (K + P) Pl) y).1 = (sp_fresh Z.2.2.2.2.2 Z.2.2.2.1 (P + Z.2.2.2.2.1) (K + P) Pl).1 := (by first | (unfold sp_fplo; first | rw [if_pos hn0] | rw [if_neg hn0]) | (unfold sp_fplp; first | rw [if_pos hn0] | rw [if_neg hn0]))
    have e9_2 : (sp_fplp K P Pl (sp_fresh Z.2.2.2.2.2 Z.2.2.2.1 (P + Z.2.2.2.2.1) (K + P) Pl) y).2.1 = (sp_fresh Z.2.2.2.2.2 Z.2.2.2.1 (P + Z.2.2.2.2.1) (K + P) Pl).2.1 := (by first | (unfold sp_fplo; first | rw [if_pos hn0] | rw [if_neg hn0]) | (unfold sp_fplp; first | rw [if_pos hn0] | rw [if_neg hn0]))
    have e9_3 : (sp_fplp K P Pl (sp_fresh Z.2.2.2.2.2 Z.2.2.2.1 (P + Z.2.2.2.2.1) (K + P) Pl) y).2.2 = (sp_fresh Z.2.2.2.2.2 Z.2.2.2.1 (P + Z.2.2.2.2.1) (K + P) Pl).2.2 := (by first | (unfold sp_fplo; first | rw [if_pos hn0] | rw [if_neg hn0]) | (unfold sp_fplp; first | rw [if_pos hn0] | rw [if_neg hn0]))
    have e9 : ([(fo, .inr (5, [.ref wta, .ref soa, .ref rea, .int (nI cnt), .ref fb, .int fs, .ref ib])), (rea, .inl (cA 3, 4, .inr (.inr (.inr (.inr fR))))), (ro, .inr (2, [.ref o, .ref sp, .ref pe, .int (sp_fplo K P Z.2.2.2.2.2 y), .ref na, .ref oa, .ref ra, .int (nI Z.2.2.2.2.1), .int wr, .int tw, .int co])), (pe, .inr (1, [.long ((sp_fplp K P Pl (sp_fresh Z.2.2.2.2.2 Z.2.2.2.1 (P + Z.2.2.2.2.1) (K + P) Pl) y).1), .long ((sp_fplp K P Pl (sp_fresh Z.2.2.2.2.2 Z.2.2.2.1 (P + Z.2.2.2.2.1) (K + P) Pl) y).2.1), .long ((sp_fplp K P Pl (sp_fresh Z.2.2.2.2.2 Z.2.2.2.1 (P + Z.2.2.2.2.1) (K + P) Pl) y).2.2)])), (ra, .inl (cA 1, 72, .inr (.inl Z.2.2.2.1))), (o, .inr (3, [.int (nI K), .int (nI P), .int (nI (K + P)), .int (nI S), .int seed, .ref wa, .int T, .ref ua, .ref sa]))] : va_W) = [(fo, .inr (5, [.ref wta, .ref soa, .ref rea, .int (nI cnt), .ref fb, .int fs, .ref ib])), (rea, .inl (cA 3, 4, .inr (.inr (.inr (.inr fR))))), (ro, .inr (2, [.ref o, .ref sp, .ref pe, .int 0, .ref na, .ref oa, .ref ra, .int (nI Z.2.2.2.2.1), .int wr, .int tw, .int co])), (pe, .inr (1, [.long ((sp_fresh Z.2.2.2.2.2 Z.2.2.2.1 (P + Z.2.2.2.2.1) (K + P) Pl).1), .long ((sp_fresh Z.2.2.2.2.2 Z.2.2.2.1 (P + Z.2.2.2.2.1) (K + P) Pl).2.1), .long ((sp_fresh Z.2.2.2.2.2 Z.2.2.2.1 (P + Z.2.2.2.2.1) (K + P) Pl).2.2)])), (ra, .inl (cA 1, 72, .inr (.inl Z.2.2.2.1))), (o, .inr (3, [.int (nI K), .int (nI P), .int (nI (K + P)), .int (nI S), .int seed, .ref wa, .int T, .ref ua, .ref sa]))] := by rw [e9_0, e9_1, e9_2, e9_3]
    exact W.iret (v := sp_pof (sp_fresh Z.2.2.2.2.2 Z.2.2.2.1 (P + Z.2.2.2.2.1) (K + P) Pl) y) hx hb hr (fun t9 ht9 hW9 => ⟨⟨sp_pof (sp_fresh Z.2.2.2.2.2 Z.2.2.2.1 (P + Z.2.2.2.2.1) (K + P) Pl) y, (), rfl, (by unfold sp_fpl; first | rw [if_pos hn0] | rw [if_neg hn0]), by rw [ht9, e9]; exact hP9, by rw [e9]; exact hD9⟩, hS.F ht9⟩) hS.2.2 dX5_peeled_30
set_option maxHeartbeats 4000000 in
set_option maxRecDepth 100000 in
theorem c_F_told_at (l : Launch) (dC : Nat → ClassId) (dI : Nat → Nat → Nat) (cA : Nat → ClassId) (sz : Nat) (fo : Nat) (wta : Nat) (soa : Nat) (rea : Nat) (fb : Nat) (ib : Nat) (cnt : Nat) (fs : Int32) (fR : Nat → Option Nat) (j : Nat) (o : Nat) (wa : Nat) (ua : Nat) (sa : Nat) (K : Nat) (P : Nat) (S : Nat) (seed : Int32) (T : Int32) (ro : Nat) (sp : Nat) (sra : Nat) (sva : Nat) (pe : Nat) (na : Nat) (oa : Nat) (ra : Nat) (wr : Int32) (tw : Int32) (co : Int32) (Z : RcT) (Pl : Int64 × Int64 × Int64) (y : Int32) (hcnt : cnt ≤ 4) (hj : j < cnt) (hfR : fR j = some ro) (hK32 : K ≤ 32) (hP8 : P ≤ 8) (hK1 : 1 ≤ K) (htk : Z.2.2.2.2.1 ≤ 64) : Met l yX5_told (kw_X5_told) ({ frames := 6, cells := 0, slots := 0, locals := 141 }) (va_Pc [.ref fo, .int (nI j), .int y] (fun U => kRW dC dI cA [(fo, .inr (5, [.ref wta, .ref soa, .ref rea, .int (nI cnt), .ref fb, .int fs, .ref ib])), (rea, .inl (cA 3, 4, .inr (.inr (.inr (.inr fR))))), (ro, .inr (2, [.ref o, .ref sp, .ref pe, .int Z.2.2.2.2.2, .ref na, .ref oa, .ref ra, .int (nI Z.2.2.2.2.1), .int wr, .int tw, .int co])), (sp, .inr (4, [.ref sra, .ref sva, .int (nI Z.1.2.2.1), .long Z.1.2.2.2.1, .long Z.1.2.2.2.2])), (sra, .inl (cA 1, 40, .inr (.inl Z.1.1))), (pe, .inr (1, [.long Pl.1, .long Pl.2.1, .long Pl.2.2])), (ra, .inl (cA 1, 72, .inr (.inl Z.2.2.2.1))), (o, .inr (3, [.int (nI K), .int (nI P), .int (nI (K + P)), .int (nI S), .int seed, .ref wa, .int T, .ref ua, .ref sa]))] sz U)) (va_Qi (fun r (u : Unit) => r = sp_tell y Z.1 Z.2.2.2.2.1 (K + P) (sp_fresh Z.2.2.2.2.2 Z.2.2.2.1 (P + Z.2.2.2.2.1) (K + P) Pl) wr tw co) (fun (u : Unit) t => kB dC dI (va_A [(fo, .inr (5, [.ref wta, .ref soa, .ref rea, .int (nI cnt), .ref fb, .int fs, .ref ib])), (rea, .inl (cA 3, 4, .inr (.inr (.inr (.inr fR))))), (ro, .inr (2, [.ref o, .ref sp, .ref pe, .int Z.2.2.2.2.2, .ref na, .ref oa, .ref ra, .int (nI Z.2.2.2.2.1), .int wr, .int tw, .int co])), (sp, .inr (4, [.ref sra, .ref sva, .int (nI Z.1.2.2.1), .long Z.1.2.2.2.1, .long Z.1.2.2.2.2])), (sra, .inl (cA 1, 40, .inr (.inl Z.1.1))), (pe, .inr (1, [.long Pl.1, .long Pl.2.1, .long Pl.2.2])), (ra, .inl (cA 1, 72, .inr (.inl Z.2.2.2.1))), (o, .inr (3, [.int (nI K), .int (nI P), .int (nI (K + P)), .int (nI S), .int seed, .ref wa, .int T, .ref ua, .ref sa]))] sz) [(fo, .inr (5, [.ref wta, .ref soa, .ref rea, .int (nI cnt), .ref fb, .int fs, .ref ib])), (rea, .inl (cA 3, 4, .inr (.inr (.inr (.inr fR))))), (ro, .inr (2, [.ref o, .ref sp, .ref pe, .int (sp_tello y Z.2.2.2.2.2), .ref na, .ref oa, .ref ra, .int (nI Z.2.2.2.2.1), .int wr, .int tw, .int co])), (sp, .inr (4, [.ref sra, .ref sva, .int (nI Z.1.2.2.1), .long Z.1.2.2.2.1, .long Z.1.2.2.2.2])), (sra, .inl (cA 1, 40, .inr (.inl Z.1.1))), (pe, .inr (1, [.long ((sp_tellp y Pl (sp_fresh Z.2.2.2.2.2 Z.2.2.2.1 (P + Z.2.2.2.2.1) (K + P) Pl)).1), .long ((sp_tellp y Pl (sp_fresh Z.2.2.2.2.2 Z.2.2.2.1 (P + Z.2.2.2.2.1) (K + P) Pl)).2.1), .long ((sp_tellp y Pl (sp_fresh Z.2.2.2.2.2 Z.2.2.2.1 (P + Z.2.2.2.2.1) (K + P) Pl)).2.2)])), (ra, .inl (cA 1, 72, .inr (.inl Z.2.2.2.1))), (o, .inr (3, [.int (nI K), .int (nI P), .int (nI (K + P)), .int (nI S), .int seed, .ref wa, .int T, .ref ua, .ref sa]))] t) (va_A [(fo, .inr (5, [.ref wta, .ref soa, .ref rea, .int (nI cnt), .ref fb, .int fs, .ref ib])), (rea, .inl (cA 3, 4, .inr (.inr (.inr (.inr fR))))), (ro, .inr (2, [.ref o, .ref sp, .ref pe, .int Z.2.2.2.2.2, .ref na, .ref oa, .ref ra, .int (nI Z.2.2.2.2.1), .int wr, .int tw, .int co])), (sp, .inr (4, [.ref sra, .ref sva, .int (nI Z.1.2.2.1), .long Z.1.2.2.2.1, .long Z.1.2.2.2.2])), (sra, .inl (cA 1, 40, .inr (.inl Z.1.1))), (pe, .inr (1, [.long Pl.1, .long Pl.2.1, .long Pl.2.2])), (ra, .inl (cA 1, 72, .inr (.inl Z.2.2.2.1))), (o, .inr (3, [.int (nI K), .int (nI P), .int (nI (K + P)), .int (nI S), .int seed, .ref wa, .int T, .ref ua, .ref sa]))] sz)) 0 0 (va_A [(fo, .inr (5, [.ref wta, .ref soa, .ref rea, .int (nI cnt), .ref fb, .int fs, .ref ib])), (rea, .inl (cA 3, 4, .inr (.inr (.inr (.inr fR))))), (ro, .inr (2, [.ref o, .ref sp, .ref pe, .int Z.2.2.2.2.2, .ref na, .ref oa, .ref ra, .int (nI Z.2.2.2.2.1), .int wr, .int tw, .int co])), (sp, .inr (4, [.ref sra, .ref sva, .int (nI Z.1.2.2.1), .long Z.1.2.2.2.1, .long Z.1.2.2.2.2])), (sra, .inl (cA 1, 40, .inr (.inl Z.1.1))), (pe, .inr (1, [.long Pl.1, .long Pl.2.1, .long Pl.2.2])), (ra, .inl (cA 1, 72, .inr (.inl Z.2.2.2.1))), (o, .inr (3, [.int (nI K), .int (nI P), .int (nI (K + P)), .int (nI S), .int seed, .ref wa, .int T, .ref ua, .ref sa]))] sz) := by
  refine Met.ofW (cc := cX5_told) (maxL := 4) (ret := (some .int)) (by decide) rfl ?_
  intro p e s m args below meth c s₁ B hml hv
  obtain ⟨rfl, hsz, hP, hK, hN, hD0⟩ := hv
  have hx := B.exec
  have hb := B.bytes
  have hr := B.returns
  have hts0 := atoms_spec (ws := (kw_X5_told)) B.pre
  have hts : ∀ w ∈ TB, w.before _ s = true := fun w h => hts0 w (List.mem_cons_of_mem _ h)
  have hown : s.vm.findClass RX5 = some m.cls := findClass_of_methodNamed B.named
  have hlocks := B.notSynchronized
  subst hsz
  have hD := hD0.self (sz := s.heap.size)
  generalize hAe : va_A [(fo, .inr (5, [.ref wta, .ref soa, .ref rea, .int (nI cnt), .ref fb, .int fs, .ref ib])), (rea, .inl (cA 3, 4, .inr (.inr (.inr (.inr fR))))), (ro, .inr (2, [.ref o, .ref sp, .ref pe, .int Z.2.2.2.2.2, .ref na, .ref oa, .ref ra, .int (nI Z.2.2.2.2.1), .int wr, .int tw, .int co])), (sp, .inr (4, [.ref sra, .ref sva, .int (nI Z.1.2.2.1), .long Z.1.2.2.2.1, .long Z.1.2.2.2.2])), (sra, .inl (cA 1, 40, .inr (.inl Z.1.1))), (pe, .inr (1, [.long Pl.1, .long Pl.2.1, .long Pl.2.2])), (ra, .inl (cA 1, 72, .inr (.inl Z.2.2.2.1))), (o, .inr (3, [.int (nI K), .int (nI P), .int (nI (K + P)), .int (nI S), .int seed, .ref wa, .int T, .ref ua, .ref sa]))] s.heap.size = A at hD ⊢
  have hA : ∀ q : Nat, s.heap.size ≤ q → A q := fun q h => by rw [← hAe]; exact Or.inr h
  have hS : va_S A s.heap s.heap [] := va_S.rf
  have hl := lv_entry ([.ref fo, .int (nI j), .int y]) (n := 4) (Nat.le_of_ble_eq_true rfl)
  rw [lg_entry_eq]
  generalize (lg_sl ([.ref fo, .int (nI j), .int y]) ++ List.replicate (4 - (lg_sl ([.ref fo, .int (nI j), .int y])).length) Slot.unset).toArray = ls at hl ⊢
  have hl : lv_has ls 4 [(0, .ref fo), (1, .int (nI j)), (2, .int y)] := hl
  refine lv_aload_n hx hb dX5_told_0 rfl (lv_at hl 0 rfl) ?_
  refine lv_iload_n hx hb dX5_told_1 rfl (lv_at hl 1 rfl) ?_
  have hPc := hP.sub (ws' := [(fo, .inr (5, [.ref wta, .ref soa, .ref rea, .int (nI cnt), .ref fb, .int fs, .ref ib])), (rea, .inl (cA 3, 4, .inr (.inr (.inr (.inr fR)))))]) [0, 1] rfl
  refine kq_csq (va_runV (As := [.int (nI j)]) (rest := []) ⟨hx, hb, hml, hown, hts⟩ (c_FountainRows_receiverAt l dC dI cA fo wta soa rea fb ib cnt fs fR (nI j) (by first | assumption | omega)) (cwV 1 hts (kg_V tb_243 tb_244 tb_245 tb_54 tb_242) rfl rfl rfl (by decide +kernel) ⟨Nat.le_of_ble_eq_true rfl, Nat.le_of_ble_eq_true rfl⟩) (kpv_ro hK hN hPc (ci := 5) (q0 := 0) rfl rfl rfl) rfl rfl hl.1 rfl (lv_room (Nat.le_of_ble_eq_true rfl)) dX5_told_2 ⟨Nat.le_of_ble_eq_true rfl, Nat.le_of_ble_eq_true rfl⟩) (fun r_1 hr_1 => ?_)
  have hr_1 : r_1 = some ro := hr_1.trans (sp_sat_at hcnt hj hfR)
  subst hr_1
  refine W.eq (g2 := F0 m 5 ls [.ref ro]) rfl ?_
  refine lv_astore_n (lv' := [(3, .ref ro), (0, .ref fo), (1, .int (nI j)), (2, .int y)]) hx hb dX5_told_5 rfl hl (by decide) rfl (fun ls hl => ?_)
  refine lv_aload_n hx hb dX5_told_6 rfl (lv_at hl 0 rfl) ?_
  refine lv_ifnonnull (tgt := 14) hx hb dX5_told_7 (by decide) ?_
  refine lv_aload_n hx hb dX5_told_14 rfl (lv_at hl 0 rfl) ?_
  refine lv_iload_n hx hb dX5_told_15 rfl (lv_at hl 3 rfl) ?_
  have hPc := hP.sub (ws' := [(ro, .inr (2, [.ref o, .ref sp, .ref pe, .int Z.2.2.2.2.2, .ref na, .ref oa, .ref ra, .int (nI Z.2.2.2.2.1), .int wr, .int tw, .int co])), (sp, .inr (4, [.ref sra, .ref sva, .int (nI Z.1.2.2.1), .long Z.1.2.2.2.1, .long Z.1.2.2.2.2])), (sra, .inl (cA 1, 40, .inr (.inl Z.1.1))), (pe, .inr (1, [.long Pl.1, .long Pl.2.1, .long Pl.2.2])), (ra, .inl (cA 1, 72, .inr (.inl Z.2.2.2.1))), (o, .inr (3, [.int (nI K), .int (nI P), .int (nI (K + P)), .int (nI S), .int seed, .ref wa, .int T, .ref ua, .ref sa]))]) [2, 3, 4, 5, 6, 7] rfl
  have hDc := hD.sub (ws' := [(ro, .inr (2, [.ref o, .ref sp, .ref pe, .int Z.2.2.2.2.2, .ref na, .ref oa, .ref ra, .int (nI Z.2.2.2.2.1), .int wr, .int tw, .int co])), (sp, .inr (4, [.ref sra, .ref sva, .int (nI Z.1.2.2.1), .long Z.1.2.2.2.1, .long Z.1.2.2.2.2])), (sra, .inl (cA 1, 40, .inr (.inl Z.1.1))), (pe, .inr (1, [.long Pl.1, .long Pl.2.1, .long Pl.2.2])), (ra, .inl (cA 1, 72, .inr (.inl Z.2.2.2.1))), (o, .inr (3, [.int (nI K), .int (nI P), .int (nI (K + P)), .int (nI S), .int seed, .ref wa, .int T, .ref ua, .ref sa]))]) [2, 3, 4, 5, 6, 7] (by decide) rfl
  have hFc := va_free (wc := [(ro, .inr (2, [.ref o, .ref sp, .ref pe, .int Z.2.2.2.2.2, .ref na, .ref oa, .ref ra, .int (nI Z.2.2.2.2.1), .int wr, .int tw, .int co])), (sp, .inr (4, [.ref sra, .ref sva, .int (nI Z.1.2.2.1), .long Z.1.2.2.2.1, .long Z.1.2.2.2.2])), (sra, .inl (cA 1, 40, .inr (.inl Z.1.1))), (pe, .inr (1, [.long Pl.1, .long Pl.2.1, .long Pl.2.2])), (ra, .inl (cA 1, 72, .inr (.inl Z.2.2.2.1))), (o, .inr (3, [.int (nI K), .int (nI P), .int (nI (K + P)), .int (nI S), .int seed, .ref wa, .int T, .ref ua, .ref sa]))]) hD hS hA [2, 3, 4, 5, 6, 7] rfl
  refine va_calli (va_runV (As := [.int y]) (rest := []) ⟨hx, hb, hml, hown, hts⟩ (c_Receiver_tell l dC dI cA s.heap.size ro sp sra sva pe na oa ra o wa ua sa K P S seed T Z.2.2.2.2.2 Z.2.2.2.2.1 wr tw co Z.1 Pl Z.2.2.2.1 y (by first | assumption | omega) (by first | assumption | omega) (by first | assumption | omega)) (cwV 1 hts (kg_V tb_277 tb_278 tb_279 tb_144 tb_276) rfl rfl rfl (by decide +kernel) ⟨Nat.le_of_ble_eq_true rfl, Nat.le_of_ble_eq_true rfl⟩) (kpv_rw hK hN hPc hDc (ci := 2) (q0 := 0) rfl rfl rfl) rfl rfl hl.1 rfl (lv_room (Nat.le_of_ble_eq_true rfl)) dX5_told_16 ⟨Nat.le_of_ble_eq_true rfl, Nat.le_of_ble_eq_true rfl⟩) hS (fun q _ h => hFc q h) hFc (fun r_2 u9 t9 H1 locs ht9 hvm9 hr_2 hB hz1 hk1 hS => ?_)
  obtain ⟨hP1, hD1⟩ := hB
  rw [ht9] at hP1
  obtain ⟨hP, hD⟩ := va_join (wr := [(fo, .inr (5, [.ref wta, .ref soa, .ref rea, .int (nI cnt), .ref fb, .int fs, .ref ib])), (rea, .inl (cA 3, 4, .inr (.inr (.inr (.inr fR)))))]) (w1 := [(ro, .inr (2, [.ref o, .ref sp, .ref pe, .int (sp_tello y Z.2.2.2.2.2), .ref na, .ref oa, .ref ra, .int (nI Z.2.2.2.2.1), .int wr, .int tw, .int co])), (sp, .inr (4, [.ref sra, .ref sva, .int (nI Z.1.2.2.1), .long Z.1.2.2.2.1, .long Z.1.2.2.2.2])), (sra, .inl (cA 1, 40, .inr (.inl Z.1.1))), (pe, .inr (1, [.long ((sp_tellp y Pl (sp_fresh Z.2.2.2.2.2 Z.2.2.2.1 (P + Z.2.2.2.2.1) (K + P) Pl)).1), .long ((sp_tellp y Pl (sp_fresh Z.2.2.2.2.2 Z.2.2.2.1 (P + Z.2.2.2.2.1) (K + P) Pl)).2.1), .long ((sp_tellp y Pl (sp_fresh Z.2.2.2.2.2 Z.2.2.2.1 (P + Z.2.2.2.2.1) (K + P) Pl)).2.2)])), (ra, .inl (cA 1, 72, .inr (.inl Z.2.2.2.1))), (o, .inr (3, [.int (nI K), .int (nI P), .int (nI (K + P)), .int (nI S), .int seed, .ref wa, .int T, .ref ua, .ref sa]))]) hP hD [2, 3, 4, 5, 6, 7] [0, 1] rfl rfl (by decide) (by decide) hk1 hFc hP1 hD1
  generalize H1 = H at hP hS ⊢
  have hP : va_P (dC, dI) vwCl [(fo, .inr (5, [.ref wta, .ref soa, .ref rea, .int (nI cnt), .ref fb, .int fs, .ref ib])), (rea, .inl (cA 3, 4, .inr (.inr (.inr (.inr fR))))), (ro, .inr (2, [.ref o, .ref sp, .ref pe, .int (sp_tello y Z.2.2.2.2.2), .ref na, .ref oa, .ref ra, .int (nI Z.2.2.2.2.1), .int wr, .int tw, .int co])), (sp, .inr (4, [.ref sra, .ref sva, .int (nI Z.1.2.2.1), .long Z.1.2.2.2.1, .long Z.1.2.2.2.2])), (sra, .inl (cA 1, 40, .inr (.inl Z.1.1))), (pe, .inr (1, [.long ((sp_tellp y Pl (sp_fresh Z.2.2.2.2.2 Z.2.2.2.1 (P + Z.2.2.2.2.1) (K + P) Pl)).1), .long ((sp_tellp y Pl (sp_fresh Z.2.2.2.2.2 Z.2.2.2.1 (P + Z.2.2.2.2.1) (K + P) Pl)).2.1), .long ((sp_tellp y Pl (sp_fresh Z.2.2.2.2.2 Z.2.2.2.1 (P + Z.2.2.2.2.1) (K + P) Pl)).2.2)])), (ra, .inl (cA 1, 72, .inr (.inl Z.2.2.2.1))), (o, .inr (3, [.int (nI K), .int (nI P), .int (nI (K + P)), .int (nI S), .int seed, .ref wa, .int T, .ref ua, .ref sa]))] H := hP
  have hD : va_D A [(fo, .inr (5, [.ref wta, .ref soa, .ref rea, .int (nI cnt), .ref fb, .int fs, .ref ib])), (rea, .inl (cA 3, 4, .inr (.inr (.inr (.inr fR))))), (ro, .inr (2, [.ref o, .ref sp, .ref pe, .int (sp_tello y Z.2.2.2.2.2), .ref na, .ref oa, .ref ra, .int (nI Z.2.2.2.2.1), .int wr, .int tw, .int co])), (sp, .inr (4, [.ref sra, .ref sva, .int (nI Z.1.2.2.1), .long Z.1.2.2.2.1, .long Z.1.2.2.2.2])), (sra, .inl (cA 1, 40, .inr (.inl Z.1.1))), (pe, .inr (1, [.long ((sp_tellp y Pl (sp_fresh Z.2.2.2.2.2 Z.2.2.2.1 (P + Z.2.2.2.2.1) (K + P) Pl)).1), .long ((sp_tellp y Pl (sp_fresh Z.2.2.2.2.2 Z.2.2.2.1 (P + Z.2.2.2.2.1) (K + P) Pl)).2.1), .long ((sp_tellp y Pl (sp_fresh Z.2.2.2.2.2 Z.2.2.2.1 (P + Z.2.2.2.2.1) (K + P) Pl)).2.2)])), (ra, .inl (cA 1, 72, .inr (.inl Z.2.2.2.1))), (o, .inr (3, [.int (nI K), .int (nI P), .int (nI (K + P)), .int (nI S), .int seed, .ref wa, .int T, .ref ua, .ref sa]))] := hD
  subst hr_2
  have hP9 := hP.sub (ws' := [(fo, .inr (5, [.ref wta, .ref soa, .ref rea, .int (nI cnt), .ref fb, .int fs, .ref ib])), (rea, .inl (cA 3, 4, .inr (.inr (.inr (.inr fR))))), (ro, .inr (2, [.ref o, .ref sp, .ref pe, .int (sp_tello y Z.2.2.2.2.2), .ref na, .ref oa, .ref ra, .int (nI Z.2.2.2.2.1), .int wr, .int tw, .int co])), (sp, .inr (4, [.ref sra, .ref sva, .int (nI Z.1.2.2.1), .long Z.1.2.2.2.1, .long Z.1.2.2.2.2])), (sra, .inl (cA 1, 40, .inr (.inl Z.1.1))), (pe, .inr (1, [.long ((sp_tellp y Pl (sp_fresh Z.2.2.2.2.2 Z.2.2.2.1 (P + Z.2.2.2.2.1) (K + P) Pl)).1), .long ((sp_tellp y Pl (sp_fresh Z.2.2.2.2.2 Z.2.2.2.1 (P + Z.2.2.2.2.1) (K + P) Pl)).2.1), .long ((sp_tellp y Pl (sp_fresh Z.2.2.2.2.2 Z.2.2.2.1 (P + Z.2.2.2.2.1) (K + P) Pl)).2.2)])), (ra, .inl (cA 1, 72, .inr (.inl Z.2.2.2.1))), (o, .inr (3, [.int (nI K), .int (nI P), .int (nI (K + P)), .int (nI S), .int seed, .ref wa, .int T, .ref ua, .ref sa]))]) [0, 1, 2, 3, 4, 5, 6, 7] rfl
  have hD9 := hD.sub (ws' := [(fo, .inr (5, [.ref wta, .ref soa, .ref rea, .int (nI cnt), .ref fb, .int fs, .ref ib])), (rea, .inl (cA 3, 4, .inr (.inr (.inr (.inr fR))))), (ro, .inr (2, [.ref o, .ref sp, .ref pe, .int (sp_tello y Z.2.2.2.2.2), .ref na, .ref oa, .ref ra, .int (nI Z.2.2.2.2.1), .int wr, .int tw, .int co])), (sp, .inr (4, [.ref sra, .ref sva, .int (nI Z.1.2.2.1), .long Z.1.2.2.2.1, .long Z.1.2.2.2.2])), (sra, .inl (cA 1, 40, .inr (.inl Z.1.1))), (pe, .inr (1, [.long ((sp_tellp y Pl (sp_fresh Z.2.2.2.2.2 Z.2.2.2.1 (P + Z.2.2.2.2.1) (K + P) Pl)).1), .long ((sp_tellp y Pl (sp_fresh Z.2.2.2.2.2 Z.2.2.2.1 (P + Z.2.2.2.2.1) (K + P) Pl)).2.1), .long ((sp_tellp y Pl (sp_fresh Z.2.2.2.2.2 Z.2.2.2.1 (P + Z.2.2.2.2.1) (K + P) Pl)).2.2)])), (ra, .inl (cA 1, 72, .inr (.inl Z.2.2.2.1))), (o, .inr (3, [.int (nI K), .int (nI P), .int (nI (K + P)), .int (nI S), .int seed, .ref wa, .int T, .ref ua, .ref sa]))]) [0, 1, 2, 3, 4, 5, 6, 7] (by decide) rfl
  exact W.iret (v := sp_tell y Z.1 Z.2.2.2.2.1 (K + P) (sp_fresh Z.2.2.2.2.2 Z.2.2.2.1 (P + Z.2.2.2.2.1) (K + P) Pl) wr tw co) hx hb hr (fun t9 ht9 hW9 => ⟨⟨sp_tell y Z.1 Z.2.2.2.2.1 (K + P) (sp_fresh Z.2.2.2.2.2 Z.2.2.2.1 (P + Z.2.2.2.2.1) (K + P) Pl) wr tw co, (), rfl, rfl, by rw [ht9]; exact hP9, hD9⟩, hS.F ht9⟩) hS.2.2 dX5_told_19
set_option maxHeartbeats 4000000 in
set_option maxRecDepth 100000 in
theorem c_F_image_at (l : Launch) (dC : Nat → ClassId) (dI : Nat → Nat → Nat) (cA : Nat → ClassId) (sz : Nat) (fo : Nat) (wta : Nat) (soa : Nat) (rea : Nat) (fb : Nat) (ib : Nat) (ica : Nat) (cnt : Nat) (ilen : Nat) (fs : Int32) (fR : Nat → Option Nat) (fi : Nat → Int32) (j : Nat) (o : Nat) (wa : Nat) (ua : Nat) (sa : Nat) (K : Nat) (P : Nat) (S : Nat) (seed : Int32) (T : Int32) (ro : Nat) (sp : Nat) (pe : Nat) (na : Nat) (oa : Nat) (ra : Nat) (wr : Int32) (tw : Int32) (co : Int32) (Z : RcT) (hcnt : cnt ≤ 4) (hj : j < cnt) (hfR : fR j = some ro) (hil : ilen ≤ 651) (htk : Z.2.2.2.2.1 ≤ 64) (hS8 : S ≤ 8) : Met l yX5_image (kw_X5_image) ({ frames := 4, cells := 0, slots := 0, locals := 89 }) (va_Pc [.ref fo, .int (nI j)] (fun U => kRW dC dI cA [(fo, .inr (5, [.ref wta, .ref soa, .ref rea, .int (nI cnt), .ref fb, .int fs, .ref ib])), (rea, .inl (cA 3, 4, .inr (.inr (.inr (.inr fR))))), (ib, .inr (0, [.ref ica, .int (nI ilen)])), (ica, .inl (cA 0, 651, .inl fi)), (ro, .inr (2, [.ref o, .ref sp, .ref pe, .int Z.2.2.2.2.2, .ref na, .ref oa, .ref ra, .int (nI Z.2.2.2.2.1), .int wr, .int tw, .int co])), (na, .inl (cA 0, 64, .inl Z.2.1)), (oa, .inl (cA 1, 64, .inr (.inl Z.2.2.1))), (o, .inr (3, [.int (nI K), .int (nI P), .int (nI (K + P)), .int (nI S), .int seed, .ref wa, .int T, .ref ua, .ref sa]))] sz U)) (va_Qi (fun r (u : Unit) => r = nI (sp_wr 651 K P S seed Z.2.1 Z.2.2.1 Z.2.2.2.2.1 fi).2) (fun (u : Unit) t => kB dC dI (va_A [(fo, .inr (5, [.ref wta, .ref soa, .ref rea, .int (nI cnt), .ref fb, .int fs, .ref ib])), (rea, .inl (cA 3, 4, .inr (.inr (.inr (.inr fR))))), (ib, .inr (0, [.ref ica, .int (nI ilen)])), (ica, .inl (cA 0, 651, .inl fi)), (ro, .inr (2, [.ref o, .ref sp, .ref pe, .int Z.2.2.2.2.2, .ref na, .ref oa, .ref ra, .int (nI Z.2.2.2.2.1), .int wr, .int tw, .int co])), (na, .inl (cA 0, 64, .inl Z.2.1)), (oa, .inl (cA 1, 64, .inr (.inl Z.2.2.1))), (o, .inr (3, [.int (nI K), .int (nI P), .int (nI (K + P)), .int (nI S), .int seed, .ref wa, .int T, .ref ua, .ref sa]))] sz) [(fo, .inr (5, [.ref wta, .ref soa, .ref rea, .int (nI cnt), .ref fb, .int fs, .ref ib])), (rea, .inl (cA 3, 4, .inr (.inr (.inr (.inr fR))))), (ib, .inr (0, [.ref ica, .int (nI ((sp_wr 651 K P S seed Z.2.1 Z.2.2.1 Z.2.2.2.2.1 fi).2))])), (ica, .inl (cA 0, 651, .inl ((sp_wr 651 K P S seed Z.2.1 Z.2.2.1 Z.2.2.2.2.1 fi).1))), (ro, .inr (2, [.ref o, .ref sp, .ref pe, .int Z.2.2.2.2.2, .ref na, .ref oa, .ref ra, .int (nI Z.2.2.2.2.1), .int wr, .int tw, .int co])), (na, .inl (cA 0, 64, .inl Z.2.1)), (oa, .inl (cA 1, 64, .inr (.inl Z.2.2.1))), (o, .inr (3, [.int (nI K), .int (nI P), .int (nI (K + P)), .int (nI S), .int seed, .ref wa, .int T, .ref ua, .ref sa]))] t) (va_A [(fo, .inr (5, [.ref wta, .ref soa, .ref rea, .int (nI cnt), .ref fb, .int fs, .ref ib])), (rea, .inl (cA 3, 4, .inr (.inr (.inr (.inr fR))))), (ib, .inr (0, [.ref ica, .int (nI ilen)])), (ica, .inl (cA 0, 651, .inl fi)), (ro, .inr (2, [.ref o, .ref sp, .ref pe, .int Z.2.2.2.2.2, .ref na, .ref oa, .ref ra, .int (nI Z.2.2.2.2.1), .int wr, .int tw, .int co])), (na, .inl (cA 0, 64, .inl Z.2.1)), (oa, .inl (cA 1, 64, .inr (.inl Z.2.2.1))), (o, .inr (3, [.int (nI K), .int (nI P), .int (nI (K + P)), .int (nI S), .int seed, .ref wa, .int T, .ref ua, .ref sa]))] sz)) 0 0 (va_A [(fo, .inr (5, [.ref wta, .ref soa, .ref rea, .int (nI cnt), .ref fb, .int fs, .ref ib])), (rea, .inl (cA 3, 4, .inr (.inr (.inr (.inr fR))))), (ib, .inr (0, [.ref ica, .int (nI ilen)])), (ica, .inl (cA 0, 651, .inl fi)), (ro, .inr (2, [.ref o, .ref sp, .ref pe, .int Z.2.2.2.2.2, .ref na, .ref oa, .ref ra, .int (nI Z.2.2.2.2.1), .int wr, .int tw, .int co])), (na, .inl (cA 0, 64, .inl Z.2.1)), (oa, .inl (cA 1, 64, .inr (.inl Z.2.2.1))), (o, .inr (3, [.int (nI K), .int (nI P), .int (nI (K + P)), .int (nI S), .int seed, .ref wa, .int T, .ref ua, .ref sa]))] sz) := by
  refine Met.ofW (cc := cX5_image) (maxL := 3) (ret := (some .int)) (by decide) rfl ?_
  intro p e s m args below meth c s₁ B hml hv
  obtain ⟨rfl, hsz, hP, hK, hN, hD0⟩ := hv
  have hx := B.exec
  have hb := B.bytes
  have hr := B.returns
  have hts0 := atoms_spec (ws := (kw_X5_image)) B.pre
  have hts : ∀ w ∈ TB, w.before _ s = true := fun w h => hts0 w (List.mem_cons_of_mem _ h)
  have hown : s.vm.findClass RX5 = some m.cls := findClass_of_methodNamed B.named
  have hlocks := B.notSynchronized
  subst hsz
  have hD := hD0.self (sz := s.heap.size)
  generalize hAe : va_A [(fo, .inr (5, [.ref wta, .ref soa, .ref rea, .int (nI cnt), .ref fb, .int fs, .ref ib])), (rea, .inl (cA 3, 4, .inr (.inr (.inr (.inr fR))))), (ib, .inr (0, [.ref ica, .int (nI ilen)])), (ica, .inl (cA 0, 651, .inl fi)), (ro, .inr (2, [.ref o, .ref sp, .ref pe, .int Z.2.2.2.2.2, .ref na, .ref oa, .ref ra, .int (nI Z.2.2.2.2.1), .int wr, .int tw, .int co])), (na, .inl (cA 0, 64, .inl Z.2.1)), (oa, .inl (cA 1, 64, .inr (.inl Z.2.2.1))), (o, .inr (3, [.int (nI K), .int (nI P), .int (nI (K + P)), .int (nI S), .int seed, .ref wa, .int T, .ref ua, .ref sa]))] s.heap.size = A at hD ⊢
  have hA : ∀ q : Nat, s.heap.size ≤ q → A q := fun q h => by rw [← hAe]; exact Or.inr h
  have hS : va_S A s.heap s.heap [] := va_S.rf
  have hk_0 := hts (.fieldLink RX5 50 "FountainRows" "imageBytes" "LFountainRows$Bytes;") tb_233
  have hk_1 : ∀ A9 : Array Value, (Cond.fieldLinkNest RX5 111 "FountainRows$Bytes" "length" "I" "FountainRows").before A9 s = true := fun _ => va_Nw.use rfl (hN.1 (RX5, 111, "FountainRows$Bytes", "length", "I", "FountainRows") (List.mem_of_getElem? (i := 0) rfl))
  have hl := lv_entry ([.ref fo, .int (nI j)]) (n := 3) (Nat.le_of_ble_eq_true rfl)
  rw [lg_entry_eq]
  generalize (lg_sl ([.ref fo, .int (nI j)]) ++ List.replicate (3 - (lg_sl ([.ref fo, .int (nI j)])).length) Slot.unset).toArray = ls at hl ⊢
  have hl : lv_has ls 3 [(0, .ref fo), (1, .int (nI j))] := hl
  refine lv_aload_n hx hb dX5_image_0 rfl (lv_at hl 0 rfl) ?_
  refine lv_iload_n hx hb dX5_image_1 rfl (lv_at hl 1 rfl) ?_
  have hPc := hP.sub (ws' := [(fo, .inr (5, [.ref wta, .ref soa, .ref rea, .int (nI cnt), .ref fb, .int fs, .ref ib])), (rea, .inl (cA 3, 4, .inr (.inr (.inr (.inr fR)))))]) [0, 1] rfl
  refine kq_csq (va_runV (As := [.int (nI j)]) (rest := []) ⟨hx, hb, hml, hown, hts⟩ (c_FountainRows_receiverAt l dC dI cA fo wta soa rea fb ib cnt fs fR (nI j) (by first | assumption | omega)) (cwV 1 hts (kg_V tb_243 tb_244 tb_245 tb_54 tb_242) rfl rfl rfl (by decide +kernel) ⟨Nat.le_of_ble_eq_true rfl, Nat.le_of_ble_eq_true rfl⟩) (kpv_ro hK hN hPc (ci := 5) (q0 := 0) rfl rfl rfl) rfl rfl hl.1 rfl (lv_room (Nat.le_of_ble_eq_true rfl)) dX5_image_2 ⟨Nat.le_of_ble_eq_true rfl, Nat.le_of_ble_eq_true rfl⟩) (fun r_1 hr_1 => ?_)
  have hr_1 : r_1 = some ro := hr_1.trans (sp_sat_at hcnt hj hfR)
  subst hr_1
  refine W.eq (g2 := F0 m 5 ls [.ref ro]) rfl ?_
  refine lv_astore_n (lv' := [(2, .ref ro), (0, .ref fo), (1, .int (nI j))]) hx hb dX5_image_5 rfl hl (by decide) rfl (fun ls hl => ?_)
  refine lv_aload_n hx hb dX5_image_6 rfl (lv_at hl 0 rfl) ?_
  refine lv_ifnonnull (tgt := 12) hx hb dX5_image_7 (by decide) ?_
  refine lv_aload_n hx hb dX5_image_12 rfl (lv_at hl 0 rfl) ?_
  refine lv_aload_n hx hb dX5_image_13 rfl (lv_at hl 1 rfl) ?_
  refine va_get (D := (dC, dI)) (ci := 5) (v := .ref ib) (C := RX5) (T := TX5) (N := 7) hx hb hts inX5 hown hK hP 0 rfl rfl 6 (by decide) hk_0 (fun _ h9 => h9) rfl dX5_image_14 ?_
  have hPc := hP.sub (ws' := [(ro, .inr (2, [.ref o, .ref sp, .ref pe, .int Z.2.2.2.2.2, .ref na, .ref oa, .ref ra, .int (nI Z.2.2.2.2.1), .int wr, .int tw, .int co])), (na, .inl (cA 0, 64, .inl Z.2.1)), (oa, .inl (cA 1, 64, .inr (.inl Z.2.2.1))), (o, .inr (3, [.int (nI K), .int (nI P), .int (nI (K + P)), .int (nI S), .int seed, .ref wa, .int T, .ref ua, .ref sa])), (ib, .inr (0, [.ref ica, .int (nI ilen)])), (ica, .inl (cA 0, 651, .inl fi))]) [4, 5, 6, 7, 2, 3] rfl
  have hDc := hD.sub (ws' := [(ro, .inr (2, [.ref o, .ref sp, .ref pe, .int Z.2.2.2.2.2, .ref na, .ref oa, .ref ra, .int (nI Z.2.2.2.2.1), .int wr, .int tw, .int co])), (na, .inl (cA 0, 64, .inl Z.2.1)), (oa, .inl (cA 1, 64, .inr (.inl Z.2.2.1))), (o, .inr (3, [.int (nI K), .int (nI P), .int (nI (K + P)), .int (nI S), .int seed, .ref wa, .int T, .ref ua, .ref sa])), (ib, .inr (0, [.ref ica, .int (nI ilen)])), (ica, .inl (cA 0, 651, .inl fi))]) [4, 5, 6, 7, 2, 3] (by decide) rfl
  have hFc := va_free (wc := [(ro, .inr (2, [.ref o, .ref sp, .ref pe, .int Z.2.2.2.2.2, .ref na, .ref oa, .ref ra, .int (nI Z.2.2.2.2.1), .int wr, .int tw, .int co])), (na, .inl (cA 0, 64, .inl Z.2.1)), (oa, .inl (cA 1, 64, .inr (.inl Z.2.2.1))), (o, .inr (3, [.int (nI K), .int (nI P), .int (nI (K + P)), .int (nI S), .int seed, .ref wa, .int T, .ref ua, .ref sa])), (ib, .inr (0, [.ref ica, .int (nI ilen)])), (ica, .inl (cA 0, 651, .inl fi))]) hD hS hA [4, 5, 6, 7, 2, 3] rfl
  refine va_callv (va_runV (As := [.ref ib]) (rest := []) ⟨hx, hb, hml, hown, hts⟩ (c_Receiver_writeTo l dC dI cA s.heap.size ro sp pe na oa ra o wa ua sa K P S seed T Z.2.2.2.2.2 Z.2.2.2.2.1 wr tw co Z.2.1 Z.2.2.1 ib ica 651 ilen fi (by first | assumption | omega) (by first | assumption | omega) (by first | assumption | omega) (by first | assumption | omega)) (cwV 1 hts (kg_V tb_281 tb_282 tb_283 tb_144 tb_280) rfl rfl rfl (by decide +kernel) ⟨Nat.le_of_ble_eq_true rfl, Nat.le_of_ble_eq_true rfl⟩) (kpv_rw hK hN hPc hDc (ci := 2) (q0 := 0) rfl rfl rfl) rfl rfl hl.1 rfl (lv_room (Nat.le_of_ble_eq_true rfl)) dX5_image_17 ⟨Nat.le_of_ble_eq_true rfl, Nat.le_of_ble_eq_true rfl⟩) hS (fun q _ h => hFc q h) hFc (fun u9 t9 H1 locs ht9 hvm9 hr_2 hB hz1 hk1 hS => ?_)
  obtain ⟨hP1, hD1⟩ := hB
  rw [ht9] at hP1
  obtain ⟨hP, hD⟩ := va_join (wr := [(fo, .inr (5, [.ref wta, .ref soa, .ref rea, .int (nI cnt), .ref fb, .int fs, .ref ib])), (rea, .inl (cA 3, 4, .inr (.inr (.inr (.inr fR)))))]) (w1 := [(ro, .inr (2, [.ref o, .ref sp, .ref pe, .int Z.2.2.2.2.2, .ref na, .ref oa, .ref ra, .int (nI Z.2.2.2.2.1), .int wr, .int tw, .int co])), (na, .inl (cA 0, 64, .inl Z.2.1)), (oa, .inl (cA 1, 64, .inr (.inl Z.2.2.1))), (o, .inr (3, [.int (nI K), .int (nI P), .int (nI (K + P)), .int (nI S), .int seed, .ref wa, .int T, .ref ua, .ref sa])), (ib, .inr (0, [.ref ica, .int (nI ((sp_wr 651 K P S seed Z.2.1 Z.2.2.1 Z.2.2.2.2.1 fi).2))])), (ica, .inl (cA 0, 651, .inl ((sp_wr 651 K P S seed Z.2.1 Z.2.2.1 Z.2.2.2.2.1 fi).1)))]) hP hD [4, 5, 6, 7, 2, 3] [0, 1] rfl rfl (by decide) (by decide) hk1 hFc hP1 hD1
  generalize H1 = H at hP hS ⊢
  have hP : va_P (dC, dI) vwCl [(fo, .inr (5, [.ref wta, .ref soa, .ref rea, .int (nI cnt), .ref fb, .int fs, .ref ib])), (rea, .inl (cA 3, 4, .inr (.inr (.inr (.inr fR))))), (ro, .inr (2, [.ref o, .ref sp, .ref pe, .int Z.2.2.2.2.2, .ref na, .ref oa, .ref ra, .int (nI Z.2.2.2.2.1), .int wr, .int tw, .int co])), (na, .inl (cA 0, 64, .inl Z.2.1)), (oa, .inl (cA 1, 64, .inr (.inl Z.2.2.1))), (o, .inr (3, [.int (nI K), .int (nI P), .int (nI (K + P)), .int (nI S), .int seed, .ref wa, .int T, .ref ua, .ref sa])), (ib, .inr (0, [.ref ica, .int (nI ((sp_wr 651 K P S seed Z.2.1 Z.2.2.1 Z.2.2.2.2.1 fi).2))])), (ica, .inl (cA 0, 651, .inl ((sp_wr 651 K P S seed Z.2.1 Z.2.2.1 Z.2.2.2.2.1 fi).1)))] H := hP
  have hD : va_D A [(fo, .inr (5, [.ref wta, .ref soa, .ref rea, .int (nI cnt), .ref fb, .int fs, .ref ib])), (rea, .inl (cA 3, 4, .inr (.inr (.inr (.inr fR))))), (ro, .inr (2, [.ref o, .ref sp, .ref pe, .int Z.2.2.2.2.2, .ref na, .ref oa, .ref ra, .int (nI Z.2.2.2.2.1), .int wr, .int tw, .int co])), (na, .inl (cA 0, 64, .inl Z.2.1)), (oa, .inl (cA 1, 64, .inr (.inl Z.2.2.1))), (o, .inr (3, [.int (nI K), .int (nI P), .int (nI (K + P)), .int (nI S), .int seed, .ref wa, .int T, .ref ua, .ref sa])), (ib, .inr (0, [.ref ica, .int (nI ((sp_wr 651 K P S seed Z.2.1 Z.2.2.1 Z.2.2.2.2.1 fi).2))])), (ica, .inl (cA 0, 651, .inl ((sp_wr 651 K P S seed Z.2.1 Z.2.2.1 Z.2.2.2.2.1 fi).1)))] := hD
  refine lv_aload_n hx hb dX5_image_20 rfl (lv_at hl 1 rfl) ?_
  refine va_get (D := (dC, dI)) (ci := 5) (v := .ref ib) (C := RX5) (T := TX5) (N := 7) hx hb hts inX5 hown hK hP 0 rfl rfl 6 (by decide) hk_0 (fun _ h9 => h9) rfl dX5_image_21 ?_
  refine va_getN (D := (dC, dI)) (ci := 0) (v := .int (nI ((sp_wr 651 K P S seed Z.2.1 Z.2.2.1 Z.2.2.2.2.1 fi).2))) (C := RX0) (T := TX0) (N := 2) hx hb hts inX0 hown hK hP 6 rfl rfl 1 (by decide) (hk_1 _) (fun _ h9 => h9) rfl dX5_image_24 ?_
  have hP9 := hP.sub (ws' := [(fo, .inr (5, [.ref wta, .ref soa, .ref rea, .int (nI cnt), .ref fb, .int fs, .ref ib])), (rea, .inl (cA 3, 4, .inr (.inr (.inr (.inr fR))))), (ib, .inr (0, [.ref ica, .int (nI ((sp_wr 651 K P S seed Z.2.1 Z.2.2.1 Z.2.2.2.2.1 fi).2))])), (ica, .inl (cA 0, 651, .inl ((sp_wr 651 K P S seed Z.2.1 Z.2.2.1 Z.2.2.2.2.1 fi).1))), (ro, .inr (2, [.ref o, .ref sp, .ref pe, .int Z.2.2.2.2.2, .ref na, .ref oa, .ref ra, .int (nI Z.2.2.2.2.1), .int wr, .int tw, .int co])), (na, .inl (cA 0, 64, .inl Z.2.1)), (oa, .inl (cA 1, 64, .inr (.inl Z.2.2.1))), (o, .inr (3, [.int (nI K), .int (nI P), .int (nI (K + P)), .int (nI S), .int seed, .ref wa, .int T, .ref ua, .ref sa]))]) [0, 1, 6, 7, 2, 3, 4, 5] rfl
  have hD9 := hD.sub (ws' := [(fo, .inr (5, [.ref wta, .ref soa, .ref rea, .int (nI cnt), .ref fb, .int fs, .ref ib])), (rea, .inl (cA 3, 4, .inr (.inr (.inr (.inr fR))))), (ib, .inr (0, [.ref ica, .int (nI ((sp_wr 651 K P S seed Z.2.1 Z.2.2.1 Z.2.2.2.2.1 fi).2))])), (ica, .inl (cA 0, 651, .inl ((sp_wr 651 K P S seed Z.2.1 Z.2.2.1 Z.2.2.2.2.1 fi).1))), (ro, .inr (2, [.ref o, .ref sp, .ref pe, .int Z.2.2.2.2.2, .ref na, .ref oa, .ref ra, .int (nI Z.2.2.2.2.1), .int wr, .int tw, .int co])), (na, .inl (cA 0, 64, .inl Z.2.1)), (oa, .inl (cA 1, 64, .inr (.inl Z.2.2.1))), (o, .inr (3, [.int (nI K), .int (nI P), .int (nI (K + P)), .int (nI S), .int seed, .ref wa, .int T, .ref ua, .ref sa]))]) [0, 1, 6, 7, 2, 3, 4, 5] (by decide) rfl
  exact W.iret (v := nI ((sp_wr 651 K P S seed Z.2.1 Z.2.2.1 Z.2.2.2.2.1 fi).2)) hx hb hr (fun t9 ht9 hW9 => ⟨⟨nI ((sp_wr 651 K P S seed Z.2.1 Z.2.2.1 Z.2.2.2.2.1 fi).2), (), rfl, rfl, by rw [ht9]; exact hP9, hD9⟩, hS.F ht9⟩) hS.2.2 dX5_image_27
set_option maxHeartbeats 4000000 in
set_option maxRecDepth 100000 in
theorem c_F_take_at (l : Launch) (dC : Nat → ClassId) (dI : Nat → Nat → Nat) (cA : Nat → ClassId) (sz : Nat) (fo : Nat) (wta : Nat) (soa : Nat) (rea : Nat) (fb : Nat) (fca : Nat) (ib : Nat) (cnt : Nat) (flen : Nat) (fR : Nat → Option Nat) (ff : Nat → Int32) (j : Nat) (o : Nat) (wa : Nat) (ua : Nat) (sa : Nat) (K : Nat) (P : Nat) (S : Nat) (seed : Int32) (T : Int32) (w : Nat → Int32) (ro : Nat) (sp : Nat) (sra : Nat) (sva : Nat) (pe : Nat) (na : Nat) (oa : Nat) (ra : Nat) (wr : Int32) (tw : Int32) (co : Int32) (Z : RcT) (hcnt : cnt ≤ 4) (hj : j < cnt) (hfR : fR j = some ro) (hK32 : K ≤ 32) (hP8 : P ≤ 8) (hK1 : 1 ≤ K) (htk : Z.2.2.2.2.1 ≤ 64) (hrk : Z.1.2.2.1 ≤ 1000) (hfl : flen ≤ 12) (hS8 : S ≤ 8) : Met l yX5_take (kw_X5_take) ({ frames := 5, cells := 0, slots := 0, locals := 122 }) (va_Pc [.ref fo] (fun U => kRW dC dI cA [(fo, .inr (5, [.ref wta, .ref soa, .ref rea, .int (nI cnt), .ref fb, .int (nI j), .ref ib])), (rea, .inl (cA 3, 4, .inr (.inr (.inr (.inr fR))))), (fb, .inr (0, [.ref fca, .int (nI flen)])), (fca, .inl (cA 0, 12, .inl ff)), (ro, .inr (2, [.ref o, .ref sp, .ref pe, .int Z.2.2.2.2.2, .ref na, .ref oa, .ref ra, .int (nI Z.2.2.2.2.1), .int wr, .int tw, .int co])), (sp, .inr (4, [.ref sra, .ref sva, .int (nI Z.1.2.2.1), .long Z.1.2.2.2.1, .long Z.1.2.2.2.2])), (sra, .inl (cA 1, 40, .inr (.inl Z.1.1))), (sva, .inl (cA 1, 40, .inr (.inl Z.1.2.1))), (na, .inl (cA 0, 64, .inl Z.2.1)), (oa, .inl (cA 1, 64, .inr (.inl Z.2.2.1))), (ra, .inl (cA 1, 72, .inr (.inl Z.2.2.2.1))), (o, .inr (3, [.int (nI K), .int (nI P), .int (nI (K + P)), .int (nI S), .int seed, .ref wa, .int T, .ref ua, .ref sa])), (wa, .inl (cA 0, 12, .inl w))] sz U)) (va_Qi (fun r (u : Unit) => r = (sp_tf P (sp_row K P seed w T (sp_num flen ff 0 2).toInt32) (sp_num flen ff 0 2).toInt32 (sp_num flen ff (0 + 2) S) flen ff Z wr tw co).1) (fun (u : Unit) t => kB dC dI (va_A [(fo, .inr (5, [.ref wta, .ref soa, .ref rea, .int (nI cnt), .ref fb, .int (nI j), .ref ib])), (rea, .inl (cA 3, 4, .inr (.inr (.inr (.inr fR))))), (fb, .inr (0, [.ref fca, .int (nI flen)])), (fca, .inl (cA 0, 12, .inl ff)), (ro, .inr (2, [.ref o, .ref sp, .ref pe, .int Z.2.2.2.2.2, .ref na, .ref oa, .ref ra, .int (nI Z.2.2.2.2.1), .int wr, .int tw, .int co])), (sp, .inr (4, [.ref sra, .ref sva, .int (nI Z.1.2.2.1), .long Z.1.2.2.2.1, .long Z.1.2.2.2.2])), (sra, .inl (cA 1, 40, .inr (.inl Z.1.1))), (sva, .inl (cA 1, 40, .inr (.inl Z.1.2.1))), (na, .inl (cA 0, 64, .inl Z.2.1)), (oa, .inl (cA 1, 64, .inr (.inl Z.2.2.1))), (ra, .inl (cA 1, 72, .inr (.inl Z.2.2.2.1))), (o, .inr (3, [.int (nI K), .int (nI P), .int (nI (K + P)), .int (nI S), .int seed, .ref wa, .int T, .ref ua, .ref sa])), (wa, .inl (cA 0, 12, .inl w))] sz) [(fo, .inr (5, [.ref wta, .ref soa, .ref rea, .int (nI cnt), .ref fb, .int (nI j), .ref ib])), (rea, .inl (cA 3, 4, .inr (.inr (.inr (.inr fR))))), (fb, .inr (0, [.ref fca, .int (nI flen)])), (fca, .inl (cA 0, 12, .inl ff)), (ro, .inr (2, [.ref o, .ref sp, .ref pe, .int (((sp_tf P (sp_row K P seed w T (sp_num flen ff 0 2).toInt32) (sp_num flen ff 0 2).toInt32 (sp_num flen ff (0 + 2) S) flen ff Z wr tw co).2.1).2.2.2.2.2), .ref na, .ref oa, .ref ra, .int (nI (((sp_tf P (sp_row K P seed w T (sp_num flen ff 0 2).toInt32) (sp_num flen ff 0 2).toInt32 (sp_num flen ff (0 + 2) S) flen ff Z wr tw co).2.1).2.2.2.2.1)), .int ((sp_tf P (sp_row K P seed w T (sp_num flen ff 0 2).toInt32) (sp_num flen ff 0 2).toInt32 (sp_num flen ff (0 + 2) S) flen ff Z wr tw co).2.2.1), .int ((sp_tf P (sp_row K P seed w T (sp_num flen ff 0 2).toInt32) (sp_num flen ff 0 2).toInt32 (sp_num flen ff (0 + 2) S) flen ff Z wr tw co).2.2.2.1), .int ((sp_tf P (sp_row K P seed w T (sp_num flen ff 0 2).toInt32) (sp_num flen ff 0 2).toInt32 (sp_num flen ff (0 + 2) S) flen ff Z wr tw co).2.2.2.2)])), (sp, .inr (4, [.ref sra, .ref sva, .int (nI ((((sp_tf P (sp_row K P seed w T (sp_num flen ff 0 2).toInt32) (sp_num flen ff 0 2).toInt32 (sp_num flen ff (0 + 2) S) flen ff Z wr tw co).2.1).1).2.2.1)), .long ((((sp_tf P (sp_row K P seed w T (sp_num flen ff 0 2).toInt32) (sp_num flen ff 0 2).toInt32 (sp_num flen ff (0 + 2) S) flen ff Z wr tw co).2.1).1).2.2.2.1), .long ((((sp_tf P (sp_row K P seed w T (sp_num flen ff 0 2).toInt32) (sp_num flen ff 0 2).toInt32 (sp_num flen ff (0 + 2) S) flen ff Z wr tw co).2.1).1).2.2.2.2)])), (sra, .inl (cA 1, 40, .inr (.inl ((((sp_tf P (sp_row K P seed w T (sp_num flen ff 0 2).toInt32) (sp_num flen ff 0 2).toInt32 (sp_num flen ff (0 + 2) S) flen ff Z wr tw co).2.1).1).1)))), (sva, .inl (cA 1, 40, .inr (.inl ((((sp_tf P (sp_row K P seed w T (sp_num flen ff 0 2).toInt32) (sp_num flen ff 0 2).toInt32 (sp_num flen ff (0 + 2) S) flen ff Z wr tw co).2.1).1).2.1)))), (na, .inl (cA 0, 64, .inl (((sp_tf P (sp_row K P seed w T (sp_num flen ff 0 2).toInt32) (sp_num flen ff 0 2).toInt32 (sp_num flen ff (0 + 2) S) flen ff Z wr tw co).2.1).2.1))), (oa, .inl (cA 1, 64, .inr (.inl (((sp_tf P (sp_row K P seed w T (sp_num flen ff 0 2).toInt32) (sp_num flen ff 0 2).toInt32 (sp_num flen ff (0 + 2) S) flen ff Z wr tw co).2.1).2.2.1)))), (ra, .inl (cA 1, 72, .inr (.inl (((sp_tf P (sp_row K P seed w T (sp_num flen ff 0 2).toInt32) (sp_num flen ff 0 2).toInt32 (sp_num flen ff (0 + 2) S) flen ff Z wr tw co).2.1).2.2.2.1)))), (o, .inr (3, [.int (nI K), .int (nI P), .int (nI (K + P)), .int (nI S), .int seed, .ref wa, .int T, .ref ua, .ref sa])), (wa, .inl (cA 0, 12, .inl w))] t) (va_A [(fo, .inr (5, [.ref wta, .ref soa, .ref rea, .int (nI cnt), .ref fb, .int (nI j), .ref ib])), (rea, .inl (cA 3, 4, .inr (.inr (.inr (.inr fR))))), (fb, .inr (0, [.ref fca, .int (nI flen)])), (fca, .inl (cA 0, 12, .inl ff)), (ro, .inr (2, [.ref o, .ref sp, .ref pe, .int Z.2.2.2.2.2, .ref na, .ref oa, .ref ra, .int (nI Z.2.2.2.2.1), .int wr, .int tw, .int co])), (sp, .inr (4, [.ref sra, .ref sva, .int (nI Z.1.2.2.1), .long Z.1.2.2.2.1, .long Z.1.2.2.2.2])), (sra, .inl (cA 1, 40, .inr (.inl Z.1.1))), (sva, .inl (cA 1, 40, .inr (.inl Z.1.2.1))), (na, .inl (cA 0, 64, .inl Z.2.1)), (oa, .inl (cA 1, 64, .inr (.inl Z.2.2.1))), (ra, .inl (cA 1, 72, .inr (.inl Z.2.2.2.1))), (o, .inr (3, [.int (nI K), .int (nI P), .int (nI (K + P)), .int (nI S), .int seed, .ref wa, .int T, .ref ua, .ref sa])), (wa, .inl (cA 0, 12, .inl w))] sz)) 0 0 (va_A [(fo, .inr (5, [.ref wta, .ref soa, .ref rea, .int (nI cnt), .ref fb, .int (nI j), .ref ib])), (rea, .inl (cA 3, 4, .inr (.inr (.inr (.inr fR))))), (fb, .inr (0, [.ref fca, .int (nI flen)])), (fca, .inl (cA 0, 12, .inl ff)), (ro, .inr (2, [.ref o, .ref sp, .ref pe, .int Z.2.2.2.2.2, .ref na, .ref oa, .ref ra, .int (nI Z.2.2.2.2.1), .int wr, .int tw, .int co])), (sp, .inr (4, [.ref sra, .ref sva, .int (nI Z.1.2.2.1), .long Z.1.2.2.2.1, .long Z.1.2.2.2.2])), (sra, .inl (cA 1, 40, .inr (.inl Z.1.1))), (sva, .inl (cA 1, 40, .inr (.inl Z.1.2.1))), (na, .inl (cA 0, 64, .inl Z.2.1)), (oa, .inl (cA 1, 64, .inr (.inl Z.2.2.1))), (ra, .inl (cA 1, 72, .inr (.inl Z.2.2.2.1))), (o, .inr (3, [.int (nI K), .int (nI P), .int (nI (K + P)), .int (nI S), .int seed, .ref wa, .int T, .ref ua, .ref sa])), (wa, .inl (cA 0, 12, .inl w))] sz) := by
  refine Met.ofW (cc := cX5_take) (maxL := 2) (ret := (some .int)) (by decide) rfl ?_
  intro p e s m args below meth c s₁ B hml hv
  obtain ⟨rfl, hsz, hP, hK, hN, hD0⟩ := hv
  have hx := B.exec
  have hb := B.bytes
  have hr := B.returns
  have hts0 := atoms_spec (ws := (kw_X5_take)) B.pre
  have hts : ∀ w ∈ TB, w.before _ s = true := fun w h => hts0 w (List.mem_cons_of_mem _ h)
  have hown : s.vm.findClass RX5 = some m.cls := findClass_of_methodNamed B.named
  have hlocks := B.notSynchronized
  subst hsz
  have hD := hD0.self (sz := s.heap.size)
  generalize hAe : va_A [(fo, .inr (5, [.ref wta, .ref soa, .ref rea, .int (nI cnt), .ref fb, .int (nI j), .ref ib])), (rea, .inl (cA 3, 4, .inr (.inr (.inr (.inr fR))))), (fb, .inr (0, [.ref fca, .int (nI flen)])), (fca, .inl (cA 0, 12, .inl ff)), (ro, .inr (2, [.ref o, .ref sp, .ref pe, .int Z.2.2.2.2.2, .ref na, .ref oa, .ref ra, .int (nI Z.2.2.2.2.1), .int wr, .int tw, .int co])), (sp, .inr (4, [.ref sra, .ref sva, .int (nI Z.1.2.2.1), .long Z.1.2.2.2.1, .long Z.1.2.2.2.2])), (sra, .inl (cA 1, 40, .inr (.inl Z.1.1))), (sva, .inl (cA 1, 40, .inr (.inl Z.1.2.1))), (na, .inl (cA 0, 64, .inl Z.2.1)), (oa, .inl (cA 1, 64, .inr (.inl Z.2.2.1))), (ra, .inl (cA 1, 72, .inr (.inl Z.2.2.2.1))), (o, .inr (3, [.int (nI K), .int (nI P), .int (nI (K + P)), .int (nI S), .int seed, .ref wa, .int T, .ref ua, .ref sa])), (wa, .inl (cA 0, 12, .inl w))] s.heap.size = A at hD ⊢
  have hA : ∀ q : Nat, s.heap.size ≤ q → A q := fun q h => by rw [← hAe]; exact Or.inr h
  have hS : va_S A s.heap s.heap [] := va_S.rf
  have hk_0 := hts (.fieldLink RX5 47 "FountainRows" "frameSource" "I") tb_230
  have hk_1 := hts (.fieldLink RX5 43 "FountainRows" "frameBytes" "LFountainRows$Bytes;") tb_231
  have hl := lv_entry ([.ref fo]) (n := 2) (Nat.le_of_ble_eq_true rfl)
  rw [lg_entry_eq]
  generalize (lg_sl ([.ref fo]) ++ List.replicate (2 - (lg_sl ([.ref fo])).length) Slot.unset).toArray = ls at hl ⊢
  have hl : lv_has ls 2 [(0, .ref fo)] := hl
  refine lv_aload_n hx hb dX5_take_0 rfl (lv_at hl 0 rfl) ?_
  refine lv_aload_n hx hb dX5_take_1 rfl (lv_at hl 0 rfl) ?_
  refine va_get (D := (dC, dI)) (ci := 5) (v := .int (nI j)) (C := RX5) (T := TX5) (N := 7) hx hb hts inX5 hown hK hP 0 rfl rfl 5 (by decide) hk_0 (fun _ h9 => h9) rfl dX5_take_2 ?_
  have hPc := hP.sub (ws' := [(fo, .inr (5, [.ref wta, .ref soa, .ref rea, .int (nI cnt), .ref fb, .int (nI j), .ref ib])), (rea, .inl (cA 3, 4, .inr (.inr (.inr (.inr fR)))))]) [0, 1] rfl
  refine kq_csq (va_runV (As := [.int (nI j)]) (rest := []) ⟨hx, hb, hml, hown, hts⟩ (c_FountainRows_receiverAt l dC dI cA fo wta soa rea fb ib cnt (nI j) fR (nI j) (by first | assumption | omega)) (cwV 1 hts (kg_V tb_243 tb_244 tb_245 tb_54 tb_242) rfl rfl rfl (by decide +kernel) ⟨Nat.le_of_ble_eq_true rfl, Nat.le_of_ble_eq_true rfl⟩) (kpv_ro hK hN hPc (ci := 5) (q0 := 0) rfl rfl rfl) rfl rfl hl.1 rfl (lv_room (Nat.le_of_ble_eq_true rfl)) dX5_take_5 ⟨Nat.le_of_ble_eq_true rfl, Nat.le_of_ble_eq_true rfl⟩) (fun r_1 hr_1 => ?_)
  have hr_1 : r_1 = some ro := hr_1.trans (sp_sat_at hcnt hj hfR)
  subst hr_1
  refine W.eq (g2 := F0 m 8 ls [.ref ro]) rfl ?_
  refine lv_astore_n (lv' := [(1, .ref ro), (0, .ref fo)]) hx hb dX5_take_8 rfl hl (by decide) rfl (fun ls hl => ?_)
  refine lv_aload_n hx hb dX5_take_9 rfl (lv_at hl 0 rfl) ?_
  refine lv_ifnonnull (tgt := 18) hx hb dX5_take_10 (by decide) ?_
  refine lv_aload_n hx hb dX5_take_18 rfl (lv_at hl 0 rfl) ?_
  refine lv_aload_n hx hb dX5_take_19 rfl (lv_at hl 1 rfl) ?_
  refine va_get (D := (dC, dI)) (ci := 5) (v := .ref fb) (C := RX5) (T := TX5) (N := 7) hx hb hts inX5 hown hK hP 0 rfl rfl 4 (by decide) hk_1 (fun _ h9 => h9) rfl dX5_take_20 ?_
  have hPc := hP.sub (ws' := [(ro, .inr (2, [.ref o, .ref sp, .ref pe, .int Z.2.2.2.2.2, .ref na, .ref oa, .ref ra, .int (nI Z.2.2.2.2.1), .int wr, .int tw, .int co])), (sp, .inr (4, [.ref sra, .ref sva, .int (nI Z.1.2.2.1), .long Z.1.2.2.2.1, .long Z.1.2.2.2.2])), (sra, .inl (cA 1, 40, .inr (.inl Z.1.1))), (sva, .inl (cA 1, 40, .inr (.inl Z.1.2.1))), (na, .inl (cA 0, 64, .inl Z.2.1)), (oa, .inl (cA 1, 64, .inr (.inl Z.2.2.1))), (ra, .inl (cA 1, 72, .inr (.inl Z.2.2.2.1))), (fb, .inr (0, [.ref fca, .int (nI flen)])), (fca, .inl (cA 0, 12, .inl ff)), (o, .inr (3, [.int (nI K), .int (nI P), .int (nI (K + P)), .int (nI S), .int seed, .ref wa, .int T, .ref ua, .ref sa])), (wa, .inl (cA 0, 12, .inl w))]) [4, 5, 6, 7, 8, 9, 10, 2, 3, 11, 12] rfl
  have hDc := hD.sub (ws' := [(ro, .inr (2, [.ref o, .ref sp, .ref pe, .int Z.2.2.2.2.2, .ref na, .ref oa, .ref ra, .int (nI Z.2.2.2.2.1), .int wr, .int tw, .int co])), (sp, .inr (4, [.ref sra, .ref sva, .int (nI Z.1.2.2.1), .long Z.1.2.2.2.1, .long Z.1.2.2.2.2])), (sra, .inl (cA 1, 40, .inr (.inl Z.1.1))), (sva, .inl (cA 1, 40, .inr (.inl Z.1.2.1))), (na, .inl (cA 0, 64, .inl Z.2.1)), (oa, .inl (cA 1, 64, .inr (.inl Z.2.2.1))), (ra, .inl (cA 1, 72, .inr (.inl Z.2.2.2.1))), (fb, .inr (0, [.ref fca, .int (nI flen)])), (fca, .inl (cA 0, 12, .inl ff)), (o, .inr (3, [.int (nI K), .int (nI P), .int (nI (K + P)), .int (nI S), .int seed, .ref wa, .int T, .ref ua, .ref sa])), (wa, .inl (cA 0, 12, .inl w))]) [4, 5, 6, 7, 8, 9, 10, 2, 3, 11, 12] (by decide) rfl
  have hFc := va_free (wc := [(ro, .inr (2, [.ref o, .ref sp, .ref pe, .int Z.2.2.2.2.2, .ref na, .ref oa, .ref ra, .int (nI Z.2.2.2.2.1), .int wr, .int tw, .int co])), (sp, .inr (4, [.ref sra, .ref sva, .int (nI Z.1.2.2.1), .long Z.1.2.2.2.1, .long Z.1.2.2.2.2])), (sra, .inl (cA 1, 40, .inr (.inl Z.1.1))), (sva, .inl (cA 1, 40, .inr (.inl Z.1.2.1))), (na, .inl (cA 0, 64, .inl Z.2.1)), (oa, .inl (cA 1, 64, .inr (.inl Z.2.2.1))), (ra, .inl (cA 1, 72, .inr (.inl Z.2.2.2.1))), (fb, .inr (0, [.ref fca, .int (nI flen)])), (fca, .inl (cA 0, 12, .inl ff)), (o, .inr (3, [.int (nI K), .int (nI P), .int (nI (K + P)), .int (nI S), .int seed, .ref wa, .int T, .ref ua, .ref sa])), (wa, .inl (cA 0, 12, .inl w))]) hD hS hA [4, 5, 6, 7, 8, 9, 10, 2, 3, 11, 12] rfl
  refine va_calli (va_runV (As := [.ref fb]) (rest := []) ⟨hx, hb, hml, hown, hts⟩ (c_Receiver_takeFrame l dC dI cA s.heap.size ro sp sra sva pe na oa ra o wa ua sa K P S seed T wr tw co Z fb fca 12 flen ff w (by first | assumption | omega) (by first | assumption | omega) (by first | assumption | omega) (by first | assumption | omega) (by first | assumption | omega) (by first | assumption | omega) (by first | assumption | omega) (by first | assumption | omega)) (cwV 1 hts (kg_V tb_285 tb_286 tb_287 tb_144 tb_284) rfl rfl rfl (by decide +kernel) ⟨Nat.le_of_ble_eq_true rfl, Nat.le_of_ble_eq_true rfl⟩) (kpv_rw hK hN hPc hDc (ci := 2) (q0 := 0) rfl rfl rfl) rfl rfl hl.1 rfl (lv_room (Nat.le_of_ble_eq_true rfl)) dX5_take_23 ⟨Nat.le_of_ble_eq_true rfl, Nat.le_of_ble_eq_true rfl⟩) hS (fun q _ h => hFc q h) hFc (fun r_2 u9 t9 H1 locs ht9 hvm9 hr_2 hB hz1 hk1 hS => ?_)
  obtain ⟨hP1, hD1⟩ := hB
  rw [ht9] at hP1
  obtain ⟨hP, hD⟩ := va_join (wr := [(fo, .inr (5, [.ref wta, .ref soa, .ref rea, .int (nI cnt), .ref fb, .int (nI j), .ref ib])), (rea, .inl (cA 3, 4, .inr (.inr (.inr (.inr fR)))))]) (w1 := [(ro, .inr (2, [.ref o, .ref sp, .ref pe, .int (((sp_tf P (sp_row K P seed w T ((sp_num flen ff 0 2).toInt32)) ((sp_num flen ff 0 2).toInt32) (sp_num flen ff (0 + 2) S) flen ff Z wr tw co).2.1).2.2.2.2.2), .ref na, .ref oa, .ref ra, .int (nI (((sp_tf P (sp_row K P seed w T ((sp_num flen ff 0 2).toInt32)) ((sp_num flen ff 0 2).toInt32) (sp_num flen ff (0 + 2) S) flen ff Z wr tw co).2.1).2.2.2.2.1)), .int ((sp_tf P (sp_row K P seed w T ((sp_num flen ff 0 2).toInt32)) ((sp_num flen ff 0 2).toInt32) (sp_num flen ff (0 + 2) S) flen ff Z wr tw co).2.2.1), .int ((sp_tf P (sp_row K P seed w T ((sp_num flen ff 0 2).toInt32)) ((sp_num flen ff 0 2).toInt32) (sp_num flen ff (0 + 2) S) flen ff Z wr tw co).2.2.2.1), .int ((sp_tf P (sp_row K P seed w T ((sp_num flen ff 0 2).toInt32)) ((sp_num flen ff 0 2).toInt32) (sp_num flen ff (0 + 2) S) flen ff Z wr tw co).2.2.2.2)])), (sp, .inr (4, [.ref sra, .ref sva, .int (nI ((((sp_tf P (sp_row K P seed w T ((sp_num flen ff 0 2).toInt32)) ((sp_num flen ff 0 2).toInt32) (sp_num flen ff (0 + 2) S) flen ff Z wr tw co).2.1).1).2.2.1)), .long ((((sp_tf P (sp_row K P seed w T ((sp_num flen ff 0 2).toInt32)) ((sp_num flen ff 0 2).toInt32) (sp_num flen ff (0 + 2) S) flen ff Z wr tw co).2.1).1).2.2.2.1), .long ((((sp_tf P (sp_row K P seed w T ((sp_num flen ff 0 2).toInt32)) ((sp_num flen ff 0 2).toInt32) (sp_num flen ff (0 + 2) S) flen ff Z wr tw co).2.1).1).2.2.2.2)])), (sra, .inl (cA 1, 40, .inr (.inl ((((sp_tf P (sp_row K P seed w T ((sp_num flen ff 0 2).toInt32)) ((sp_num flen ff 0 2).toInt32) (sp_num flen ff (0 + 2) S) flen ff Z wr tw co).2.1).1).1)))), (sva, .inl (cA 1, 40, .inr (.inl ((((sp_tf P (sp_row K P seed w T ((sp_num flen ff 0 2).toInt32)) ((sp_num flen ff 0 2).toInt32) (sp_num flen ff (0 + 2) S) flen ff Z wr tw co).2.1).1).2.1)))), (na, .inl (cA 0, 64, .inl (((sp_tf P (sp_row K P seed w T ((sp_num flen ff 0 2).toInt32)) ((sp_num flen ff 0 2).toInt32) (sp_num flen ff (0 + 2) S) flen ff Z wr tw co).2.1).2.1))), (oa, .inl (cA 1, 64, .inr (.inl (((sp_tf P (sp_row K P seed w T ((sp_num flen ff 0 2).toInt32)) ((sp_num flen ff 0 2).toInt32) (sp_num flen ff (0 + 2) S) flen ff Z wr tw co).2.1).2.2.1)))), (ra, .inl (cA 1, 72, .inr (.inl (((sp_tf P (sp_row K P seed w T ((sp_num flen ff 0 2).toInt32)) ((sp_num flen ff 0 2).toInt32) (sp_num flen ff (0 + 2) S) flen ff Z wr tw co).2.1).2.2.2.1)))), (fb, .inr (0, [.ref fca, .int (nI flen)])), (fca, .inl (cA 0, 12, .inl ff)), (o, .inr (3, [.int (nI K), .int (nI P), .int (nI (K + P)), .int (nI S), .int seed, .ref wa, .int T, .ref ua, .ref sa])), (wa, .inl (cA 0, 12, .inl w))]) hP hD [4, 5, 6, 7, 8, 9, 10, 2, 3, 11, 12] [0, 1] rfl rfl (by decide) (by decide) hk1 hFc hP1 hD1
  generalize H1 = H at hP hS ⊢
  have hP : va_P (dC, dI) vwCl [(fo, .inr (5, [.ref wta, .ref soa, .ref rea, .int (nI cnt), .ref fb, .int (nI j), .ref ib])), (rea, .inl (cA 3, 4, .inr (.inr (.inr (.inr fR))))), (ro, .inr (2, [.ref o, .ref sp, .ref pe, .int (((sp_tf P (sp_row K P seed w T ((sp_num flen ff 0 2).toInt32)) ((sp_num flen ff 0 2).toInt32) (sp_num flen ff (0 + 2) S) flen ff Z wr tw co).2.1).2.2.2.2.2), .ref na, .ref oa, .ref ra, .int (nI (((sp_tf P (sp_row K P seed w T ((sp_num flen ff 0 2).toInt32)) ((sp_num flen ff 0 2).toInt32) (sp_num flen ff (0 + 2) S) flen ff Z wr tw co).2.1).2.2.2.2.1)), .int ((sp_tf P (sp_row K P seed w T ((sp_num flen ff 0 2).toInt32)) ((sp_num flen ff 0 2).toInt32) (sp_num flen ff (0 + 2) S) flen ff Z wr tw co).2.2.1), .int ((sp_tf P (sp_row K P seed w T ((sp_num flen ff 0 2).toInt32)) ((sp_num flen ff 0 2).toInt32) (sp_num flen ff (0 + 2) S) flen ff Z wr tw co).2.2.2.1), .int ((sp_tf P (sp_row K P seed w T ((sp_num flen ff 0 2).toInt32)) ((sp_num flen ff 0 2).toInt32) (sp_num flen ff (0 + 2) S) flen ff Z wr tw co).2.2.2.2)])), (sp, .inr (4, [.ref sra, .ref sva, .int (nI ((((sp_tf P (sp_row K P seed w T ((sp_num flen ff 0 2).toInt32)) ((sp_num flen ff 0 2).toInt32) (sp_num flen ff (0 + 2) S) flen ff Z wr tw co).2.1).1).2.2.1)), .long ((((sp_tf P (sp_row K P seed w T ((sp_num flen ff 0 2).toInt32)) ((sp_num flen ff 0 2).toInt32) (sp_num flen ff (0 + 2) S) flen ff Z wr tw co).2.1).1).2.2.2.1), .long ((((sp_tf P (sp_row K P seed w T ((sp_num flen ff 0 2).toInt32)) ((sp_num flen ff 0 2).toInt32) (sp_num flen ff (0 + 2) S) flen ff Z wr tw co).2.1).1).2.2.2.2)])), (sra, .inl (cA 1, 40, .inr (.inl ((((sp_tf P (sp_row K P seed w T ((sp_num flen ff 0 2).toInt32)) ((sp_num flen ff 0 2).toInt32) (sp_num flen ff (0 + 2) S) flen ff Z wr tw co).2.1).1).1)))), (sva, .inl (cA 1, 40, .inr (.inl ((((sp_tf P (sp_row K P seed w T ((sp_num flen ff 0 2).toInt32)) ((sp_num flen ff 0 2).toInt32) (sp_num flen ff (0 + 2) S) flen ff Z wr tw co).2.1).1).2.1)))), (na, .inl (cA 0, 64, .inl (((sp_tf P (sp_row K P seed w T ((sp_num flen ff 0 2).toInt32)) ((sp_num flen ff 0 2).toInt32) (sp_num flen ff (0 + 2) S) flen ff Z wr tw co).2.1).2.1))), (oa, .inl (cA 1, 64, .inr (.inl (((sp_tf P (sp_row K P seed w T ((sp_num flen ff 0 2).toInt32)) ((sp_num flen ff 0 2).toInt32) (sp_num flen ff (0 + 2) S) flen ff Z wr tw co).2.1).2.2.1)))), (ra, .inl (cA 1, 72, .inr (.inl (((sp_tf P (sp_row K P seed w T ((sp_num flen ff 0 2).toInt32)) ((sp_num flen ff 0 2).toInt32) (sp_num flen ff (0 + 2) S) flen ff Z wr tw co).2.1).2.2.2.1)))), (fb, .inr (0, [.ref fca, .int (nI flen)])), (fca, .inl (cA 0, 12, .inl ff)), (o, .inr (3, [.int (nI K), .int (nI P), .int (nI (K + P)), .int (nI S), .int seed, .ref wa, .int T, .ref ua, .ref sa])), (wa, .inl (cA 0, 12, .inl w))] H := hP
  have hD : va_D A [(fo, .inr (5, [.ref wta, .ref soa, .ref rea, .int (nI cnt), .ref fb, .int (nI j), .ref ib])), (rea, .inl (cA 3, 4, .inr (.inr (.inr (.inr fR))))), (ro, .inr (2, [.ref o, .ref sp, .ref pe, .int (((sp_tf P (sp_row K P seed w T ((sp_num flen ff 0 2).toInt32)) ((sp_num flen ff 0 2).toInt32) (sp_num flen ff (0 + 2) S) flen ff Z wr tw co).2.1).2.2.2.2.2), .ref na, .ref oa, .ref ra, .int (nI (((sp_tf P (sp_row K P seed w T ((sp_num flen ff 0 2).toInt32)) ((sp_num flen ff 0 2).toInt32) (sp_num flen ff (0 + 2) S) flen ff Z wr tw co).2.1).2.2.2.2.1)), .int ((sp_tf P (sp_row K P seed w T ((sp_num flen ff 0 2).toInt32)) ((sp_num flen ff 0 2).toInt32) (sp_num flen ff (0 + 2) S) flen ff Z wr tw co).2.2.1), .int ((sp_tf P (sp_row K P seed w T ((sp_num flen ff 0 2).toInt32)) ((sp_num flen ff 0 2).toInt32) (sp_num flen ff (0 + 2) S) flen ff Z wr tw co).2.2.2.1), .int ((sp_tf P (sp_row K P seed w T ((sp_num flen ff 0 2).toInt32)) ((sp_num flen ff 0 2).toInt32) (sp_num flen ff (0 + 2) S) flen ff Z wr tw co).2.2.2.2)])), (sp, .inr (4, [.ref sra, .ref sva, .int (nI ((((sp_tf P (sp_row K P seed w T ((sp_num flen ff 0 2).toInt32)) ((sp_num flen ff 0 2).toInt32) (sp_num flen ff (0 + 2) S) flen ff Z wr tw co).2.1).1).2.2.1)), .long ((((sp_tf P (sp_row K P seed w T ((sp_num flen ff 0 2).toInt32)) ((sp_num flen ff 0 2).toInt32) (sp_num flen ff (0 + 2) S) flen ff Z wr tw co).2.1).1).2.2.2.1), .long ((((sp_tf P (sp_row K P seed w T ((sp_num flen ff 0 2).toInt32)) ((sp_num flen ff 0 2).toInt32) (sp_num flen ff (0 + 2) S) flen ff Z wr tw co).2.1).1).2.2.2.2)])), (sra, .inl (cA 1, 40, .inr (.inl ((((sp_tf P (sp_row K P seed w T ((sp_num flen ff 0 2).toInt32)) ((sp_num flen ff 0 2).toInt32) (sp_num flen ff (0 + 2) S) flen ff Z wr tw co).2.1).1).1)))), (sva, .inl (cA 1, 40, .inr (.inl ((((sp_tf P (sp_row K P seed w T ((sp_num flen ff 0 2).toInt32)) ((sp_num flen ff 0 2).toInt32) (sp_num flen ff (0 + 2) S) flen ff Z wr tw co).2.1).1).2.1)))), (na, .inl (cA 0, 64, .inl (((sp_tf P (sp_row K P seed w T ((sp_num flen ff 0 2).toInt32)) ((sp_num flen ff 0 2).toInt32) (sp_num flen ff (0 + 2) S) flen ff Z wr tw co).2.1).2.1))), (oa, .inl (cA 1, 64, .inr (.inl (((sp_tf P (sp_row K P seed w T ((sp_num flen ff 0 2).toInt32)) ((sp_num flen ff 0 2).toInt32) (sp_num flen ff (0 + 2) S) flen ff Z wr tw co).2.1).2.2.1)))), (ra, .inl (cA 1, 72, .inr (.inl (((sp_tf P (sp_row K P seed w T ((sp_num flen ff 0 2).toInt32)) ((sp_num flen ff 0 2).toInt32) (sp_num flen ff (0 + 2) S) flen ff Z wr tw co).2.1).2.2.2.1)))), (fb, .inr (0, [.ref fca, .int (nI flen)])), (fca, .inl (cA 0, 12, .inl ff)), (o, .inr (3, [.int (nI K), .int (nI P), .int (nI (K + P)), .int (nI S), .int seed, .ref wa, .int T, .ref ua, .ref sa])), (wa, .inl (cA 0, 12, .inl w))] := hD
  subst hr_2
  have hP9 := hP.sub (ws' := [(fo, .inr (5, [.ref wta, .ref soa, .ref rea, .int (nI cnt), .ref fb, .int (nI j), .ref ib])), (rea, .inl (cA 3, 4, .inr (.inr (.inr (.inr fR))))), (fb, .inr (0, [.ref fca, .int (nI flen)])), (fca, .inl (cA 0, 12, .inl ff)), (ro, .inr (2, [.ref o, .ref sp, .ref pe, .int (((sp_tf P (sp_row K P seed w T ((sp_num flen ff 0 2).toInt32)) ((sp_num flen ff 0 2).toInt32) (sp_num flen ff (0 + 2) S) flen ff Z wr tw co).2.1).2.2.2.2.2), .ref na, .ref oa, .ref ra, .int (nI (((sp_tf P (sp_row K P seed w T ((sp_num flen ff 0 2).toInt32)) ((sp_num flen ff 0 2).toInt32) (sp_num flen ff (0 + 2) S) flen ff Z wr tw co).2.1).2.2.2.2.1)), .int ((sp_tf P (sp_row K P seed w T ((sp_num flen ff 0 2).toInt32)) ((sp_num flen ff 0 2).toInt32) (sp_num flen ff (0 + 2) S) flen ff Z wr tw co).2.2.1), .int ((sp_tf P (sp_row K P seed w T ((sp_num flen ff 0 2).toInt32)) ((sp_num flen ff 0 2).toInt32) (sp_num flen ff (0 + 2) S) flen ff Z wr tw co).2.2.2.1), .int ((sp_tf P (sp_row K P seed w T ((sp_num flen ff 0 2).toInt32)) ((sp_num flen ff 0 2).toInt32) (sp_num flen ff (0 + 2) S) flen ff Z wr tw co).2.2.2.2)])), (sp, .inr (4, [.ref sra, .ref sva, .int (nI ((((sp_tf P (sp_row K P seed w T ((sp_num flen ff 0 2).toInt32)) ((sp_num flen ff 0 2).toInt32) (sp_num flen ff (0 + 2) S) flen ff Z wr tw co).2.1).1).2.2.1)), .long ((((sp_tf P (sp_row K P seed w T ((sp_num flen ff 0 2).toInt32)) ((sp_num flen ff 0 2).toInt32) (sp_num flen ff (0 + 2) S) flen ff Z wr tw co).2.1).1).2.2.2.1), .long ((((sp_tf P (sp_row K P seed w T ((sp_num flen ff 0 2).toInt32)) ((sp_num flen ff 0 2).toInt32) (sp_num flen ff (0 + 2) S) flen ff Z wr tw co).2.1).1).2.2.2.2)])), (sra, .inl (cA 1, 40, .inr (.inl ((((sp_tf P (sp_row K P seed w T ((sp_num flen ff 0 2).toInt32)) ((sp_num flen ff 0 2).toInt32) (sp_num flen ff (0 + 2) S) flen ff Z wr tw co).2.1).1).1)))), (sva, .inl (cA 1, 40, .inr (.inl ((((sp_tf P (sp_row K P seed w T ((sp_num flen ff 0 2).toInt32)) ((sp_num flen ff 0 2).toInt32) (sp_num flen ff (0 + 2) S) flen ff Z wr tw co).2.1).1).2.1)))), (na, .inl (cA 0, 64, .inl (((sp_tf P (sp_row K P seed w T ((sp_num flen ff 0 2).toInt32)) ((sp_num flen ff 0 2).toInt32) (sp_num flen ff (0 + 2) S) flen ff Z wr tw co).2.1).2.1))), (oa, .inl (cA 1, 64, .inr (.inl (((sp_tf P (sp_row K P seed w T ((sp_num flen ff 0 2).toInt32)) ((sp_num flen ff 0 2).toInt32) (sp_num flen ff (0 + 2) S) flen ff Z wr tw co).2.1).2.2.1)))), (ra, .inl (cA 1, 72, .inr (.inl (((sp_tf P (sp_row K P seed w T ((sp_num flen ff 0 2).toInt32)) ((sp_num flen ff 0 2).toInt32) (sp_num flen ff (0 + 2) S) flen ff Z wr tw co).2.1).2.2.2.1)))), (o, .inr (3, [.int (nI K), .int (nI P), .int (nI (K + P)), .int (nI S), .int seed, .ref wa, .int T, .ref ua, .ref sa])), (wa, .inl (cA 0, 12, .inl w))]) [0, 1, 9, 10, 2, 3, 4, 5, 6, 7, 8, 11, 12] rfl
  have hD9 := hD.sub (ws' := [(fo, .inr (5, [.ref wta, .ref soa, .ref rea, .int (nI cnt), .ref fb, .int (nI j), .ref ib])), (rea, .inl (cA 3, 4, .inr (.inr (.inr (.inr fR))))), (fb, .inr (0, [.ref fca, .int (nI flen)])), (fca, .inl (cA 0, 12, .inl ff)), (ro, .inr (2, [.ref o, .ref sp, .ref pe, .int (((sp_tf P (sp_row K P seed w T ((sp_num flen ff 0 2).toInt32)) ((sp_num flen ff 0 2).toInt32) (sp_num flen ff (0 + 2) S) flen ff Z wr tw co).2.1).2.2.2.2.2), .ref na, .ref oa, .ref ra, .int (nI (((sp_tf P (sp_row K P seed w T ((sp_num flen ff 0 2).toInt32)) ((sp_num flen ff 0 2).toInt32) (sp_num flen ff (0 + 2) S) flen ff Z wr tw co).2.1).2.2.2.2.1)), .int ((sp_tf P (sp_row K P seed w T ((sp_num flen ff 0 2).toInt32)) ((sp_num flen ff 0 2).toInt32) (sp_num flen ff (0 + 2) S) flen ff Z wr tw co).2.2.1), .int ((sp_tf P (sp_row K P seed w T ((sp_num flen ff 0 2).toInt32)) ((sp_num flen ff 0 2).toInt32) (sp_num flen ff (0 + 2) S) flen ff Z wr tw co).2.2.2.1), .int ((sp_tf P (sp_row K P seed w T ((sp_num flen ff 0 2).toInt32)) ((sp_num flen ff 0 2).toInt32) (sp_num flen ff (0 + 2) S) flen ff Z wr tw co).2.2.2.2)])), (sp, .inr (4, [.ref sra, .ref sva, .int (nI ((((sp_tf P (sp_row K P seed w T ((sp_num flen ff 0 2).toInt32)) ((sp_num flen ff 0 2).toInt32) (sp_num flen ff (0 + 2) S) flen ff Z wr tw co).2.1).1).2.2.1)), .long ((((sp_tf P (sp_row K P seed w T ((sp_num flen ff 0 2).toInt32)) ((sp_num flen ff 0 2).toInt32) (sp_num flen ff (0 + 2) S) flen ff Z wr tw co).2.1).1).2.2.2.1), .long ((((sp_tf P (sp_row K P seed w T ((sp_num flen ff 0 2).toInt32)) ((sp_num flen ff 0 2).toInt32) (sp_num flen ff (0 + 2) S) flen ff Z wr tw co).2.1).1).2.2.2.2)])), (sra, .inl (cA 1, 40, .inr (.inl ((((sp_tf P (sp_row K P seed w T ((sp_num flen ff 0 2).toInt32)) ((sp_num flen ff 0 2).toInt32) (sp_num flen ff (0 + 2) S) flen ff Z wr tw co).2.1).1).1)))), (sva, .inl (cA 1, 40, .inr (.inl ((((sp_tf P (sp_row K P seed w T ((sp_num flen ff 0 2).toInt32)) ((sp_num flen ff 0 2).toInt32) (sp_num flen ff (0 + 2) S) flen ff Z wr tw co).2.1).1).2.1)))), (na, .inl (cA 0, 64, .inl (((sp_tf P (sp_row K P seed w T ((sp_num flen ff 0 2).toInt32)) ((sp_num flen ff 0 2).toInt32) (sp_num flen ff (0 + 2) S) flen ff Z wr tw co).2.1).2.1))), (oa, .inl (cA 1, 64, .inr (.inl (((sp_tf P (sp_row K P seed w T ((sp_num flen ff 0 2).toInt32)) ((sp_num flen ff 0 2).toInt32) (sp_num flen ff (0 + 2) S) flen ff Z wr tw co).2.1).2.2.1)))), (ra, .inl (cA 1, 72, .inr (.inl (((sp_tf P (sp_row K P seed w T ((sp_num flen ff 0 2).toInt32)) ((sp_num flen ff 0 2).toInt32) (sp_num flen ff (0 + 2) S) flen ff Z wr tw co).2.1).2.2.2.1)))), (o, .inr (3, [.int (nI K), .int (nI P), .int (nI (K + P)), .int (nI S), .int seed, .ref wa, .int T, .ref ua, .ref sa])), (wa, .inl (cA 0, 12, .inl w))]) [0, 1, 9, 10, 2, 3, 4, 5, 6, 7, 8, 11, 12] (by decide) rfl
  have e9 : ([(fo, .inr (5, [.ref wta, .ref soa, .ref rea, .int (nI cnt), .ref fb, .int (nI j), .ref ib])), (rea, .inl (cA 3, 4, .inr (.inr (.inr (.inr fR))))), (fb, .inr (0, [.ref fca, .int (nI flen)])), (fca, .inl (cA 0, 12, .inl ff)), (ro, .inr (2, [.ref o, .ref sp, .ref pe, .int (((sp_tf P (sp_row K P seed w T (sp_num flen ff 0 2).toInt32) (sp_num flen ff 0 2).toInt32 (sp_num flen ff (0 + 2) S) flen ff Z wr tw co).2.1).2.2.2.2.2), .ref na, .ref oa, .ref ra, .int (nI (((sp_tf P (sp_row K P seed w T (sp_num flen ff 0 2).toInt32) (sp_num flen ff 0 2).toInt32 (sp_num flen ff (0 + 2) S) flen ff Z wr tw co).2.1).2.2.2.2.1)), .int ((sp_tf P (sp_row K P seed w T (sp_num flen ff 0 2).toInt32) (sp_num flen ff 0 2).toInt32 (sp_num flen ff (0 + 2) S) flen ff Z wr tw co).2.2.1), .int ((sp_tf P (sp_row K P seed w T (sp_num flen ff 0 2).toInt32) (sp_num flen ff 0 2).toInt32 (sp_num flen ff (0 + 2) S) flen ff Z wr tw co).2.2.2.1), .int ((sp_tf P (sp_row K P seed w T (sp_num flen ff 0 2).toInt32) (sp_num flen ff 0 2).toInt32 (sp_num flen ff (0 + 2) S) flen ff Z wr tw co).2.2.2.2)])), (sp, .inr (4, [.ref sra, .ref sva, .int (nI ((((sp_tf P (sp_row K P seed w T (sp_num flen ff 0 2).toInt32) (sp_num flen ff 0 2).toInt32 (sp_num flen ff (0 + 2) S) flen ff Z wr tw co).2.1).1).2.2.1)), .long ((((sp_tf P (sp_row K P seed w T (sp_num flen ff 0 2).toInt32) (sp_num flen ff 0 2).toInt32 (sp_num flen ff (0 + 2) S) flen ff Z wr tw co).2.1).1).2.2.2.1), .long ((((sp_tf P (sp_row K P seed w T (sp_num flen ff 0 2).toInt32) (sp_num flen ff 0 2).toInt32 (sp_num flen ff (0 + 2) S) flen ff Z wr tw co).2.1).1).2.2.2.2)])), (sra, .inl (cA 1, 40, .inr (.inl ((((sp_tf P (sp_row K P seed w T (sp_num flen ff 0 2).toInt32) (sp_num flen ff 0 2).toInt32 (sp_num flen ff (0 + 2) S) flen ff Z wr tw co).2.1).1).1)))), (sva, .inl (cA 1, 40, .inr (.inl ((((sp_tf P (sp_row K P seed w T (sp_num flen ff 0 2).toInt32) (sp_num flen ff 0 2).toInt32 (sp_num flen ff (0 + 2) S) flen ff Z wr tw co).2.1).1).2.1)))), (na, .inl (cA 0, 64, .inl (((sp_tf P (sp_row K P seed w T (sp_num flen ff 0 2).toInt32) (sp_num flen ff 0 2).toInt32 (sp_num flen ff (0 + 2) S) flen ff Z wr tw co).2.1).2.1))), (oa, .inl (cA 1, 64, .inr (.inl (((sp_tf P (sp_row K P seed w T (sp_num flen ff 0 2).toInt32) (sp_num flen ff 0 2).toInt32 (sp_num flen ff (0 + 2) S) flen ff Z wr tw co).2.1).2.2.1)))), (ra, .inl (cA 1, 72, .inr (.inl (((sp_tf P (sp_row K P seed w T (sp_num flen ff 0 2).toInt32) (sp_num flen ff 0 2).toInt32 (sp_num flen ff (0 + 2) S) flen ff Z wr tw co).2.1).2.2.2.1)))), (o, .inr (3, [.int (nI K), .int (nI P), .int (nI (K + P)), .int (nI S), .int seed, .ref wa, .int T, .ref ua, .ref sa])), (wa, .inl (cA 0, 12, .inl w))] : va_W) = [(fo, .inr (5, [.ref wta, .ref soa, .ref rea, .int (nI cnt), .ref fb, .int (nI j), .ref ib])), (rea, .inl (cA 3, 4, .inr (.inr (.inr (.inr fR))))), (fb, .inr (0, [.ref fca, .int (nI flen)])), (fca, .inl (cA 0, 12, .inl ff)), (ro, .inr (2, [.ref o, .ref sp, .ref pe, .int (((sp_tf P (sp_row K P seed w T ((sp_num flen ff 0 2).toInt32)) ((sp_num flen ff 0 2).toInt32) (sp_num flen ff (0 + 2) S) flen ff Z wr tw co).2.1).2.2.2.2.2), .ref na, .ref oa, .ref ra, .int (nI (((sp_tf P (sp_row K P seed w T ((sp_num flen ff 0 2).toInt32)) ((sp_num flen ff 0 2).toInt32) (sp_num flen ff (0 + 2) S) flen ff Z wr tw co).2.1).2.2.2.2.1)), .int ((sp_tf P (sp_row K P seed w T ((sp_num flen ff 0 2).toInt32)) ((sp_num flen ff 0 2).toInt32) (sp_num flen ff (0 + 2) S) flen ff Z wr tw co).2.2.1), .int ((sp_tf P (sp_row K P seed w T ((sp_num flen ff 0 2).toInt32)) ((sp_num flen ff 0 2).toInt32) (sp_num flen ff (0 + 2) S) flen ff Z wr tw co).2.2.2.1), .int ((sp_tf P (sp_row K P seed w T ((sp_num flen ff 0 2).toInt32)) ((sp_num flen ff 0 2).toInt32) (sp_num flen ff (0 + 2) S) flen ff Z wr tw co).2.2.2.2)])), (sp, .inr (4, [.ref sra, .ref sva, .int (nI ((((sp_tf P (sp_row K P seed w T ((sp_num flen ff 0 2).toInt32)) ((sp_num flen ff 0 2).toInt32) (sp_num flen ff (0 + 2) S) flen ff Z wr tw co).2.1).1).2.2.1)), .long ((((sp_tf P (sp_row K P seed w T ((sp_num flen ff 0 2).toInt32)) ((sp_num flen ff 0 2).toInt32) (sp_num flen ff (0 + 2) S) flen ff Z wr tw co).2.1).1).2.2.2.1), .long ((((sp_tf P (sp_row K P seed w T ((sp_num flen ff 0 2).toInt32)) ((sp_num flen ff 0 2).toInt32) (sp_num flen ff (0 + 2) S) flen ff Z wr tw co).2.1).1).2.2.2.2)])), (sra, .inl (cA 1, 40, .inr (.inl ((((sp_tf P (sp_row K P seed w T ((sp_num flen ff 0 2).toInt32)) ((sp_num flen ff 0 2).toInt32) (sp_num flen ff (0 + 2) S) flen ff Z wr tw co).2.1).1).1)))), (sva, .inl (cA 1, 40, .inr (.inl ((((sp_tf P (sp_row K P seed w T ((sp_num flen ff 0 2).toInt32)) ((sp_num flen ff 0 2).toInt32) (sp_num flen ff (0 + 2) S) flen ff Z wr tw co).2.1).1).2.1)))), (na, .inl (cA 0, 64, .inl (((sp_tf P (sp_row K P seed w T ((sp_num flen ff 0 2).toInt32)) ((sp_num flen ff 0 2).toInt32) (sp_num flen ff (0 + 2) S) flen ff Z wr tw co).2.1).2.1))), (oa, .inl (cA 1, 64, .inr (.inl (((sp_tf P (sp_row K P seed w T ((sp_num flen ff 0 2).toInt32)) ((sp_num flen ff 0 2).toInt32) (sp_num flen ff (0 + 2) S) flen ff Z wr tw co).2.1).2.2.1)))), (ra, .inl (cA 1, 72, .inr (.inl (((sp_tf P (sp_row K P seed w T ((sp_num flen ff 0 2).toInt32)) ((sp_num flen ff 0 2).toInt32) (sp_num flen ff (0 + 2) S) flen ff Z wr tw co).2.1).2.2.2.1)))), (o, .inr (3, [.int (nI K), .int (nI P), .int (nI (K + P)), .int (nI S), .int seed, .ref wa, .int T, .ref ua, .ref sa])), (wa, .inl (cA 0, 12, .inl w))] := rfl
  exact W.iret (v := (sp_tf P (sp_row K P seed w T ((sp_num flen ff 0 2).toInt32)) ((sp_num flen ff 0 2).toInt32) (sp_num flen ff (0 + 2) S) flen ff Z wr tw co).1) hx hb hr (fun t9 ht9 hW9 => ⟨⟨(sp_tf P (sp_row K P seed w T ((sp_num flen ff 0 2).toInt32)) ((sp_num flen ff 0 2).toInt32) (sp_num flen ff (0 + 2) S) flen ff Z wr tw co).1, (), rfl, rfl, by rw [ht9, e9]; exact hP9, by rw [e9]; exact hD9⟩, hS.F ht9⟩) hS.2.2 dX5_take_26
set_option maxHeartbeats 4000000 in
set_option maxRecDepth 100000 in
theorem c_F_resume_at (l : Launch) (dC : Nat → ClassId) (dI : Nat → Nat → Nat) (cA : Nat → ClassId) (sz : Nat) (fo : Nat) (wta : Nat) (soa : Nat) (rea : Nat) (fb : Nat) (ib : Nat) (ica : Nat) (cnt : Nat) (ilen : Nat) (fs : Int32) (fR : Nat → Option Nat) (fi : Nat → Int32) (j : Nat) (o : Nat) (wa : Nat) (ua : Nat) (sa : Nat) (K : Nat) (P : Nat) (S : Nat) (seed : Int32) (T : Int32) (w : Nat → Int32) (su : Nat → Int64) (ro : Nat) (sp : Nat) (sra : Nat) (sva : Nat) (pe : Nat) (na : Nat) (oa : Nat) (ra : Nat) (wr : Int32) (tw : Int32) (co : Int32) (Z : RcT) (hcnt : cnt ≤ 4) (hj : j < cnt) (hfR : fR j = some ro) (hK32 : K ≤ 32) (hP8 : P ≤ 8) (hK1 : 1 ≤ K) (hil : ilen ≤ 651) (htk : Z.2.2.2.2.1 ≤ 64) (hrk : Z.1.2.2.1 ≤ 1000) (hS8 : S ≤ 8) : Met l yX5_resume (kw_X5_resume) ({ frames := 5, cells := 0, slots := 0, locals := 123 }) (va_Pc [.ref fo, .int (nI j)] (fun U => kRW dC dI cA [(fo, .inr (5, [.ref wta, .ref soa, .ref rea, .int (nI cnt), .ref fb, .int fs, .ref ib])), (rea, .inl (cA 3, 4, .inr (.inr (.inr (.inr fR))))), (ib, .inr (0, [.ref ica, .int (nI ilen)])), (ica, .inl (cA 0, 651, .inl fi)), (ro, .inr (2, [.ref o, .ref sp, .ref pe, .int Z.2.2.2.2.2, .ref na, .ref oa, .ref ra, .int (nI Z.2.2.2.2.1), .int wr, .int tw, .int co])), (sp, .inr (4, [.ref sra, .ref sva, .int (nI Z.1.2.2.1), .long Z.1.2.2.2.1, .long Z.1.2.2.2.2])), (sra, .inl (cA 1, 40, .inr (.inl Z.1.1))), (sva, .inl (cA 1, 40, .inr (.inl Z.1.2.1))), (na, .inl (cA 0, 64, .inl Z.2.1)), (oa, .inl (cA 1, 64, .inr (.inl Z.2.2.1))), (ra, .inl (cA 1, 72, .inr (.inl Z.2.2.2.1))), (o, .inr (3, [.int (nI K), .int (nI P), .int (nI (K + P)), .int (nI S), .int seed, .ref wa, .int T, .ref ua, .ref sa])), (wa, .inl (cA 0, 12, .inl w)), (ua, .inl (cA 1, 8, .inr (.inl su)))] sz U)) (va_Qi (fun r (u : Unit) => r = sp_resr K P S seed ilen fi (sp_rd K P S seed w T ilen fi su Z ((sp_num ilen fi 7 2).toInt32).toNatClampNeg)) (fun (u : Unit) t => kB dC dI (va_A [(fo, .inr (5, [.ref wta, .ref soa, .ref rea, .int (nI cnt), .ref fb, .int fs, .ref ib])), (rea, .inl (cA 3, 4, .inr (.inr (.inr (.inr fR))))), (ib, .inr (0, [.ref ica, .int (nI ilen)])), (ica, .inl (cA 0, 651, .inl fi)), (ro, .inr (2, [.ref o, .ref sp, .ref pe, .int Z.2.2.2.2.2, .ref na, .ref oa, .ref ra, .int (nI Z.2.2.2.2.1), .int wr, .int tw, .int co])), (sp, .inr (4, [.ref sra, .ref sva, .int (nI Z.1.2.2.1), .long Z.1.2.2.2.1, .long Z.1.2.2.2.2])), (sra, .inl (cA 1, 40, .inr (.inl Z.1.1))), (sva, .inl (cA 1, 40, .inr (.inl Z.1.2.1))), (na, .inl (cA 0, 64, .inl Z.2.1)), (oa, .inl (cA 1, 64, .inr (.inl Z.2.2.1))), (ra, .inl (cA 1, 72, .inr (.inl Z.2.2.2.1))), (o, .inr (3, [.int (nI K), .int (nI P), .int (nI (K + P)), .int (nI S), .int seed, .ref wa, .int T, .ref ua, .ref sa])), (wa, .inl (cA 0, 12, .inl w)), (ua, .inl (cA 1, 8, .inr (.inl su)))] sz) [(fo, .inr (5, [.ref wta, .ref soa, .ref rea, .int (nI cnt), .ref fb, .int fs, .ref ib])), (rea, .inl (cA 3, 4, .inr (.inr (.inr (.inr fR))))), (ib, .inr (0, [.ref ica, .int (nI ilen)])), (ica, .inl (cA 0, 651, .inl fi)), (ro, .inr (2, [.ref o, .ref sp, .ref pe, .int ((sp_resz K P S seed ilen fi Z (sp_rd K P S seed w T ilen fi su Z ((sp_num ilen fi 7 2).toInt32).toNatClampNeg)).2.2.2.2.2), .ref na, .ref oa, .ref ra, .int (nI ((sp_resz K P S seed ilen fi Z (sp_rd K P S seed w T ilen fi su Z ((sp_num ilen fi 7 2).toInt32).toNatClampNeg)).2.2.2.2.1)), .int wr, .int tw, .int co])), (sp, .inr (4, [.ref sra, .ref sva, .int (nI (((sp_resz K P S seed ilen fi Z (sp_rd K P S seed w T ilen fi su Z ((sp_num ilen fi 7 2).toInt32).toNatClampNeg)).1).2.2.1)), .long (((sp_resz K P S seed ilen fi Z (sp_rd K P S seed w T ilen fi su Z ((sp_num ilen fi 7 2).toInt32).toNatClampNeg)).1).2.2.2.1), .long (((sp_resz K P S seed ilen fi Z (sp_rd K P S seed w T ilen fi su Z ((sp_num ilen fi 7 2).toInt32).toNatClampNeg)).1).2.2.2.2)])), (sra, .inl (cA 1, 40, .inr (.inl (((sp_resz K P S seed ilen fi Z (sp_rd K P S seed w T ilen fi su Z ((sp_num ilen fi 7 2).toInt32).toNatClampNeg)).1).1)))), (sva, .inl (cA 1, 40, .inr (.inl (((sp_resz K P S seed ilen fi Z (sp_rd K P S seed w T ilen fi su Z ((sp_num ilen fi 7 2).toInt32).toNatClampNeg)).1).2.1)))), (na, .inl (cA 0, 64, .inl ((sp_resz K P S seed ilen fi Z (sp_rd K P S seed w T ilen fi su Z ((sp_num ilen fi 7 2).toInt32).toNatClampNeg)).2.1))), (oa, .inl (cA 1, 64, .inr (.inl ((sp_resz K P S seed ilen fi Z (sp_rd K P S seed w T ilen fi su Z ((sp_num ilen fi 7 2).toInt32).toNatClampNeg)).2.2.1)))), (ra, .inl (cA 1, 72, .inr (.inl ((sp_resz K P S seed ilen fi Z (sp_rd K P S seed w T ilen fi su Z ((sp_num ilen fi 7 2).toInt32).toNatClampNeg)).2.2.2.1)))), (o, .inr (3, [.int (nI K), .int (nI P), .int (nI (K + P)), .int (nI S), .int seed, .ref wa, .int T, .ref ua, .ref sa])), (wa, .inl (cA 0, 12, .inl w)), (ua, .inl (cA 1, 8, .inr (.inl su)))] t) (va_A [(fo, .inr (5, [.ref wta, .ref soa, .ref rea, .int (nI cnt), .ref fb, .int fs, .ref ib])), (rea, .inl (cA 3, 4, .inr (.inr (.inr (.inr fR))))), (ib, .inr (0, [.ref ica, .int (nI ilen)])), (ica, .inl (cA 0, 651, .inl fi)), (ro, .inr (2, [.ref o, .ref sp, .ref pe, .int Z.2.2.2.2.2, .ref na, .ref oa, .ref ra, .int (nI Z.2.2.2.2.1), .int wr, .int tw, .int co])), (sp, .inr (4, [.ref sra, .ref sva, .int (nI Z.1.2.2.1), .long Z.1.2.2.2.1, .long Z.1.2.2.2.2])), (sra, .inl (cA 1, 40, .inr (.inl Z.1.1))), (sva, .inl (cA 1, 40, .inr (.inl Z.1.2.1))), (na, .inl (cA 0, 64, .inl Z.2.1)), (oa, .inl (cA 1, 64, .inr (.inl Z.2.2.1))), (ra, .inl (cA 1, 72, .inr (.inl Z.2.2.2.1))), (o, .inr (3, [.int (nI K), .int (nI P), .int (nI (K + P)), .int (nI S), .int seed, .ref wa, .int T, .ref ua, .ref sa])), (wa, .inl (cA 0, 12, .inl w)), (ua, .inl (cA 1, 8, .inr (.inl su)))] sz)) 0 0 (va_A [(fo, .inr (5, [.ref wta, .ref soa, .ref rea, .int (nI cnt), .ref fb, .int fs, .ref ib])), (rea, .inl (cA 3, 4, .inr (.inr (.inr (.inr fR))))), (ib, .inr (0, [.ref ica, .int (nI ilen)])), (ica, .inl (cA 0, 651, .inl fi)), (ro, .inr (2, [.ref o, .ref sp, .ref pe, .int Z.2.2.2.2.2, .ref na, .ref oa, .ref ra, .int (nI Z.2.2.2.2.1), .int wr, .int tw, .int co])), (sp, .inr (4, [.ref sra, .ref sva, .int (nI Z.1.2.2.1), .long Z.1.2.2.2.1, .long Z.1.2.2.2.2])), (sra, .inl (cA 1, 40, .inr (.inl Z.1.1))), (sva, .inl (cA 1, 40, .inr (.inl Z.1.2.1))), (na, .inl (cA 0, 64, .inl Z.2.1)), (oa, .inl (cA 1, 64, .inr (.inl Z.2.2.1))), (ra, .inl (cA 1, 72, .inr (.inl Z.2.2.2.1))), (o, .inr (3, [.int (nI K), .int (nI P), .int (nI (K + P)), .int (nI S), .int seed, .ref wa, .int T, .ref ua, .ref sa])), (wa, .inl (cA 0, 12, .inl w)), (ua, .inl (cA 1, 8, .inr (.inl su)))] sz) := by
  refine Met.ofW (cc := cX5_resume) (maxL := 4) (ret := (some .int)) (by decide) rfl ?_
  intro p e s m args below meth c s₁ B hml hv
  obtain ⟨rfl, hsz, hP, hK, hN, hD0⟩ := hv
  have hx := B.exec
  have hb := B.bytes
  have hr := B.returns
  have hts0 := atoms_spec (ws := (kw_X5_resume)) B.pre
  have hts : ∀ w ∈ TB, w.before _ s = true := fun w h => hts0 w (List.mem_cons_of_mem _ h)
  have hown : s.vm.findClass RX5 = some m.cls := findClass_of_methodNamed B.named
  have hlocks := B.notSynchronized
  subst hsz
  have hD := hD0.self (sz := s.heap.size)
  generalize hAe : va_A [(fo, .inr (5, [.ref wta, .ref soa, .ref rea, .int (nI cnt), .ref fb, .int fs, .ref ib])), (rea, .inl (cA 3, 4, .inr (.inr (.inr (.inr fR))))), (ib, .inr (0, [.ref ica, .int (nI ilen)])), (ica, .inl (cA 0, 651, .inl fi)), (ro, .inr (2, [.ref o, .ref sp, .ref pe, .int Z.2.2.2.2.2, .ref na, .ref oa, .ref ra, .int (nI Z.2.2.2.2.1), .int wr, .int tw, .int co])), (sp, .inr (4, [.ref sra, .ref sva, .int (nI Z.1.2.2.1), .long Z.1.2.2.2.1, .long Z.1.2.2.2.2])), (sra, .inl (cA 1, 40, .inr (.inl Z.1.1))), (sva, .inl (cA 1, 40, .inr (.inl Z.1.2.1))), (na, .inl (cA 0, 64, .inl Z.2.1)), (oa, .inl (cA 1, 64, .inr (.inl Z.2.2.1))), (ra, .inl (cA 1, 72, .inr (.inl Z.2.2.2.1))), (o, .inr (3, [.int (nI K), .int (nI P), .int (nI (K + P)), .int (nI S), .int seed, .ref wa, .int T, .ref ua, .ref sa])), (wa, .inl (cA 0, 12, .inl w)), (ua, .inl (cA 1, 8, .inr (.inl su)))] s.heap.size = A at hD ⊢
  have hA : ∀ q : Nat, s.heap.size ≤ q → A q := fun q h => by rw [← hAe]; exact Or.inr h
  have hS : va_S A s.heap s.heap [] := va_S.rf
  have hk_0 := hts (.fieldLink RX5 50 "FountainRows" "imageBytes" "LFountainRows$Bytes;") tb_233
  have hk_1 : ∀ A9 : Array Value, (Cond.fieldLinkNest RX5 149 "FountainRows$Receiver" "span" "LFountainRows$Span;" "FountainRows").before A9 s = true := fun _ => va_Nw.use rfl (hN.1 (RX5, 149, "FountainRows$Receiver", "span", "LFountainRows$Span;", "FountainRows") (List.mem_of_getElem? (i := 15) rfl))
  have hk_2 : ∀ A9 : Array Value, (Cond.fieldLinkNest RX5 175 "FountainRows$Span" "rank" "I" "FountainRows").before A9 s = true := fun _ => va_Nw.use rfl (hN.1 (RX5, 175, "FountainRows$Span", "rank", "I", "FountainRows") (List.mem_of_getElem? (i := 10) rfl))
  have hl := lv_entry ([.ref fo, .int (nI j)]) (n := 4) (Nat.le_of_ble_eq_true rfl)
  rw [lg_entry_eq]
  generalize (lg_sl ([.ref fo, .int (nI j)]) ++ List.replicate (4 - (lg_sl ([.ref fo, .int (nI j)])).length) Slot.unset).toArray = ls at hl ⊢
  have hl : lv_has ls 4 [(0, .ref fo), (1, .int (nI j))] := hl
  refine lv_aload_n hx hb dX5_resume_0 rfl (lv_at hl 0 rfl) ?_
  refine lv_iload_n hx hb dX5_resume_1 rfl (lv_at hl 1 rfl) ?_
  have hPc := hP.sub (ws' := [(fo, .inr (5, [.ref wta, .ref soa, .ref rea, .int (nI cnt), .ref fb, .int fs, .ref ib])), (rea, .inl (cA 3, 4, .inr (.inr (.inr (.inr fR)))))]) [0, 1] rfl
  refine kq_csq (va_runV (As := [.int (nI j)]) (rest := []) ⟨hx, hb, hml, hown, hts⟩ (c_FountainRows_receiverAt l dC dI cA fo wta soa rea fb ib cnt fs fR (nI j) (by first | assumption | omega)) (cwV 1 hts (kg_V tb_243 tb_244 tb_245 tb_54 tb_242) rfl rfl rfl (by decide +kernel) ⟨Nat.le_of_ble_eq_true rfl, Nat.le_of_ble_eq_true rfl⟩) (kpv_ro hK hN hPc (ci := 5) (q0 := 0) rfl rfl rfl) rfl rfl hl.1 rfl (lv_room (Nat.le_of_ble_eq_true rfl)) dX5_resume_2 ⟨Nat.le_of_ble_eq_true rfl, Nat.le_of_ble_eq_true rfl⟩) (fun r_1 hr_1 => ?_)
  have hr_1 : r_1 = some ro := hr_1.trans (sp_sat_at hcnt hj hfR)
  subst hr_1
  refine W.eq (g2 := F0 m 5 ls [.ref ro]) rfl ?_
  refine lv_astore_n (lv' := [(2, .ref ro), (0, .ref fo), (1, .int (nI j))]) hx hb dX5_resume_5 rfl hl (by decide) rfl (fun ls hl => ?_)
  refine lv_aload_n hx hb dX5_resume_6 rfl (lv_at hl 0 rfl) ?_
  refine lv_ifnonnull (tgt := 12) hx hb dX5_resume_7 (by decide) ?_
  refine lv_aload_n hx hb dX5_resume_12 rfl (lv_at hl 0 rfl) ?_
  refine lv_aload_n hx hb dX5_resume_13 rfl (lv_at hl 1 rfl) ?_
  refine va_get (D := (dC, dI)) (ci := 5) (v := .ref ib) (C := RX5) (T := TX5) (N := 7) hx hb hts inX5 hown hK hP 0 rfl rfl 6 (by decide) hk_0 (fun _ h9 => h9) rfl dX5_resume_14 ?_
  have hPc := hP.sub (ws' := [(ro, .inr (2, [.ref o, .ref sp, .ref pe, .int Z.2.2.2.2.2, .ref na, .ref oa, .ref ra, .int (nI Z.2.2.2.2.1), .int wr, .int tw, .int co])), (o, .inr (3, [.int (nI K), .int (nI P), .int (nI (K + P)), .int (nI S), .int seed, .ref wa, .int T, .ref ua, .ref sa])), (ib, .inr (0, [.ref ica, .int (nI ilen)])), (ica, .inl (cA 0, 651, .inl fi))]) [4, 11, 2, 3] rfl
  refine kq_csi (va_runV (As := [.ref ib]) (rest := []) ⟨hx, hb, hml, hown, hts⟩ (c_Receiver_faultOf l dC dI cA ro sp pe na oa ra o wa ua sa K P S seed T Z.2.2.2.2.2 Z.2.2.2.2.1 wr tw co ib ica 651 ilen fi (by first | assumption | omega) (by first | assumption | omega)) (cwV 1 hts (kg_V tb_289 tb_290 tb_291 tb_144 tb_288) rfl rfl rfl (by decide +kernel) ⟨Nat.le_of_ble_eq_true rfl, Nat.le_of_ble_eq_true rfl⟩) (kpv_ro hK hN hPc (ci := 2) (q0 := 0) rfl rfl rfl) rfl rfl hl.1 rfl (lv_room (Nat.le_of_ble_eq_true rfl)) dX5_resume_17 ⟨Nat.le_of_ble_eq_true rfl, Nat.le_of_ble_eq_true rfl⟩) (fun r_2 hr_2 => ?_)
  subst hr_2
  refine lv_istore_n (lv' := [(3, .int (sp_fault K P S seed ilen fi)), (2, .ref ro), (0, .ref fo), (1, .int (nI j))]) hx hb dX5_resume_20 rfl hl (by decide) rfl (fun ls hl => ?_)
  refine lv_iload_n hx hb dX5_resume_21 rfl (lv_at hl 0 rfl) ?_
  refine lv_if_eq (tgt := 30) hx hb dX5_resume_22 (by decide) (fun c_3 => ?_) (fun c_3 => ?_)
  · have c_3 : (sp_fault K P S seed ilen fi) = 0 := c_3
    have hn0 := c_3
    refine lv_aload_n hx hb dX5_resume_30 rfl (lv_at hl 1 rfl) ?_
    refine lv_aload_n hx hb dX5_resume_31 rfl (lv_at hl 2 rfl) ?_
    refine va_get (D := (dC, dI)) (ci := 5) (v := .ref ib) (C := RX5) (T := TX5) (N := 7) hx hb hts inX5 hown hK hP 0 rfl rfl 6 (by decide) hk_0 (fun _ h9 => h9) rfl dX5_resume_32 ?_
    have hPc := hP.sub (ws' := [(ro, .inr (2, [.ref o, .ref sp, .ref pe, .int Z.2.2.2.2.2, .ref na, .ref oa, .ref ra, .int (nI Z.2.2.2.2.1), .int wr, .int tw, .int co])), (sp, .inr (4, [.ref sra, .ref sva, .int (nI Z.1.2.2.1), .long Z.1.2.2.2.1, .long Z.1.2.2.2.2])), (sra, .inl (cA 1, 40, .inr (.inl Z.1.1))), (sva, .inl (cA 1, 40, .inr (.inl Z.1.2.1))), (na, .inl (cA 0, 64, .inl Z.2.1)), (oa, .inl (cA 1, 64, .inr (.inl Z.2.2.1))), (ra, .inl (cA 1, 72, .inr (.inl Z.2.2.2.1))), (ib, .inr (0, [.ref ica, .int (nI ilen)])), (ica, .inl (cA 0, 651, .inl fi)), (o, .inr (3, [.int (nI K), .int (nI P), .int (nI (K + P)), .int (nI S), .int seed, .ref wa, .int T, .ref ua, .ref sa])), (wa, .inl (cA 0, 12, .inl w)), (ua, .inl (cA 1, 8, .inr (.inl su)))]) [4, 5, 6, 7, 8, 9, 10, 2, 3, 11, 12, 13] rfl
    have hDc := hD.sub (ws' := [(ro, .inr (2, [.ref o, .ref sp, .ref pe, .int Z.2.2.2.2.2, .ref na, .ref oa, .ref ra, .int (nI Z.2.2.2.2.1), .int wr, .int tw, .int co])), (sp, .inr (4, [.ref sra, .ref sva, .int (nI Z.1.2.2.1), .long Z.1.2.2.2.1, .long Z.1.2.2.2.2])), (sra, .inl (cA 1, 40, .inr (.inl Z.1.1))), (sva, .inl (cA 1, 40, .inr (.inl Z.1.2.1))), (na, .inl (cA 0, 64, .inl Z.2.1)), (oa, .inl (cA 1, 64, .inr (.inl Z.2.2.1))), (ra, .inl (cA 1, 72, .inr (.inl Z.2.2.2.1))), (ib, .inr (0, [.ref ica, .int (nI ilen)])), (ica, .inl (cA 0, 651, .inl fi)), (o, .inr (3, [.int (nI K), .int (nI P), .int (nI (K + P)), .int (nI S), .int seed, .ref wa, .int T, .ref ua, .ref sa])), (wa, .inl (cA 0, 12, .inl w)), (ua, .inl (cA 1, 8, .inr (.inl su)))]) [4, 5, 6, 7, 8, 9, 10, 2, 3, 11, 12, 13] (by decide) rfl
    have hFc := va_free (wc := [(ro, .inr (2, [.ref o, .ref sp, .ref pe, .int Z.2.2.2.2.2, .ref na, .ref oa, .ref ra, .int (nI Z.2.2.2.2.1), .int wr, .int tw, .int co])), (sp, .inr (4, [.ref sra, .ref sva, .int (nI Z.1.2.2.1), .long Z.1.2.2.2.1, .long Z.1.2.2.2.2])), (sra, .inl (cA 1, 40, .inr (.inl Z.1.1))), (sva, .inl (cA 1, 40, .inr (.inl Z.1.2.1))), (na, .inl (cA 0, 64, .inl Z.2.1)), (oa, .inl (cA 1, 64, .inr (.inl Z.2.2.1))), (ra, .inl (cA 1, 72, .inr (.inl Z.2.2.2.1))), (ib, .inr (0, [.ref ica, .int (nI ilen)])), (ica, .inl (cA 0, 651, .inl fi)), (o, .inr (3, [.int (nI K), .int (nI P), .int (nI (K + P)), .int (nI S), .int seed, .ref wa, .int T, .ref ua, .ref sa])), (wa, .inl (cA 0, 12, .inl w)), (ua, .inl (cA 1, 8, .inr (.inl su)))]) hD hS hA [4, 5, 6, 7, 8, 9, 10, 2, 3, 11, 12, 13] rfl
    refine va_callv (va_runV (As := [.ref ib]) (rest := []) ⟨hx, hb, hml, hown, hts⟩ (c_Receiver_readFrom l dC dI cA s.heap.size ro sp sra sva pe na oa ra o wa ua sa K P S seed T wr tw co Z ib ica 651 ilen fi w su (by first | assumption | omega) (by first | assumption | omega) (by first | assumption | omega) (by first | assumption | omega) (by first | assumption | omega) (by first | assumption | omega)) (cwV 1 hts (kg_V tb_293 tb_294 tb_295 tb_144 tb_292) rfl rfl rfl (by decide +kernel) ⟨Nat.le_of_ble_eq_true rfl, Nat.le_of_ble_eq_true rfl⟩) (kpv_rw hK hN hPc hDc (ci := 2) (q0 := 0) rfl rfl rfl) rfl rfl hl.1 rfl (lv_room (Nat.le_of_ble_eq_true rfl)) dX5_resume_35 ⟨Nat.le_of_ble_eq_true rfl, Nat.le_of_ble_eq_true rfl⟩) hS (fun q _ h => hFc q h) hFc (fun u9 t9 H1 locs ht9 hvm9 hr_4 hB hz1 hk1 hS => ?_)
    obtain ⟨hP1, hD1⟩ := hB
    rw [ht9] at hP1
    obtain ⟨hP, hD⟩ := va_join (wr := [(fo, .inr (5, [.ref wta, .ref soa, .ref rea, .int (nI cnt), .ref fb, .int fs, .ref ib])), (rea, .inl (cA 3, 4, .inr (.inr (.inr (.inr fR)))))]) (w1 := [(ro, .inr (2, [.ref o, .ref sp, .ref pe, .int ((sp_rd K P S seed w T ilen fi su Z ((sp_num ilen fi 7 2).toInt32).toNatClampNeg).2.2.2.2.2), .ref na, .ref oa, .ref ra, .int (nI ((sp_rd K P S seed w T ilen fi su Z ((sp_num ilen fi 7 2).toInt32).toNatClampNeg).2.2.2.2.1)), .int wr, .int tw, .int co])), (sp, .inr (4, [.ref sra, .ref sva, .int (nI (((sp_rd K P S seed w T ilen fi su Z ((sp_num ilen fi 7 2).toInt32).toNatClampNeg).1).2.2.1)), .long (((sp_rd K P S seed w T ilen fi su Z ((sp_num ilen fi 7 2).toInt32).toNatClampNeg).1).2.2.2.1), .long (((sp_rd K P S seed w T ilen fi su Z ((sp_num ilen fi 7 2).toInt32).toNatClampNeg).1).2.2.2.2)])), (sra, .inl (cA 1, 40, .inr (.inl (((sp_rd K P S seed w T ilen fi su Z ((sp_num ilen fi 7 2).toInt32).toNatClampNeg).1).1)))), (sva, .inl (cA 1, 40, .inr (.inl (((sp_rd K P S seed w T ilen fi su Z ((sp_num ilen fi 7 2).toInt32).toNatClampNeg).1).2.1)))), (na, .inl (cA 0, 64, .inl ((sp_rd K P S seed w T ilen fi su Z ((sp_num ilen fi 7 2).toInt32).toNatClampNeg).2.1))), (oa, .inl (cA 1, 64, .inr (.inl ((sp_rd K P S seed w T ilen fi su Z ((sp_num ilen fi 7 2).toInt32).toNatClampNeg).2.2.1)))), (ra, .inl (cA 1, 72, .inr (.inl ((sp_rd K P S seed w T ilen fi su Z ((sp_num ilen fi 7 2).toInt32).toNatClampNeg).2.2.2.1)))), (ib, .inr (0, [.ref ica, .int (nI ilen)])), (ica, .inl (cA 0, 651, .inl fi)), (o, .inr (3, [.int (nI K), .int (nI P), .int (nI (K + P)), .int (nI S), .int seed, .ref wa, .int T, .ref ua, .ref sa])), (wa, .inl (cA 0, 12, .inl w)), (ua, .inl (cA 1, 8, .inr (.inl su)))]) hP hD [4, 5, 6, 7, 8, 9, 10, 2, 3, 11, 12, 13] [0, 1] rfl rfl (by decide) (by decide) hk1 hFc hP1 hD1
    generalize H1 = H at hP hS ⊢
    have hP : va_P (dC, dI) vwCl [(fo, .inr (5, [.ref wta, .ref soa, .ref rea, .int (nI cnt), .ref fb, .int fs, .ref ib])), (rea, .inl (cA 3, 4, .inr (.inr (.inr (.inr fR))))), (ro, .inr (2, [.ref o, .ref sp, .ref pe, .int ((sp_rd K P S seed w T ilen fi su Z ((sp_num ilen fi 7 2).toInt32).toNatClampNeg).2.2.2.2.2), .ref na, .ref oa, .ref ra, .int (nI ((sp_rd K P S seed w T ilen fi su Z ((sp_num ilen fi 7 2).toInt32).toNatClampNeg).2.2.2.2.1)), .int wr, .int tw, .int co])), (sp, .inr (4, [.ref sra, .ref sva, .int (nI (((sp_rd K P S seed w T ilen fi su Z ((sp_num ilen fi 7 2).toInt32).toNatClampNeg).1).2.2.1)), .long (((sp_rd K P S seed w T ilen fi su Z ((sp_num ilen fi 7 2).toInt32).toNatClampNeg).1).2.2.2.1), .long (((sp_rd K P S seed w T ilen fi su Z ((sp_num ilen fi 7 2).toInt32).toNatClampNeg).1).2.2.2.2)])), (sra, .inl (cA 1, 40, .inr (.inl (((sp_rd K P S seed w T ilen fi su Z ((sp_num ilen fi 7 2).toInt32).toNatClampNeg).1).1)))), (sva, .inl (cA 1, 40, .inr (.inl (((sp_rd K P S seed w T ilen fi su Z ((sp_num ilen fi 7 2).toInt32).toNatClampNeg).1).2.1)))), (na, .inl (cA 0, 64, .inl ((sp_rd K P S seed w T ilen fi su Z ((sp_num ilen fi 7 2).toInt32).toNatClampNeg).2.1))), (oa, .inl (cA 1, 64, .inr (.inl ((sp_rd K P S seed w T ilen fi su Z ((sp_num ilen fi 7 2).toInt32).toNatClampNeg).2.2.1)))), (ra, .inl (cA 1, 72, .inr (.inl ((sp_rd K P S seed w T ilen fi su Z ((sp_num ilen fi 7 2).toInt32).toNatClampNeg).2.2.2.1)))), (ib, .inr (0, [.ref ica, .int (nI ilen)])), (ica, .inl (cA 0, 651, .inl fi)), (o, .inr (3, [.int (nI K), .int (nI P), .int (nI (K + P)), .int (nI S), .int seed, .ref wa, .int T, .ref ua, .ref sa])), (wa, .inl (cA 0, 12, .inl w)), (ua, .inl (cA 1, 8, .inr (.inl su)))] H := hP
    have hD : va_D A [(fo, .inr (5, [.ref wta, .ref soa, .ref rea, .int (nI cnt), .ref fb, .int fs, .ref ib])), (rea, .inl (cA 3, 4, .inr (.inr (.inr (.inr fR))))), (ro, .inr (2, [.ref o, .ref sp, .ref pe, .int ((sp_rd K P S seed w T ilen fi su Z ((sp_num ilen fi 7 2).toInt32).toNatClampNeg).2.2.2.2.2), .ref na, .ref oa, .ref ra, .int (nI ((sp_rd K P S seed w T ilen fi su Z ((sp_num ilen fi 7 2).toInt32).toNatClampNeg).2.2.2.2.1)), .int wr, .int tw, .int co])), (sp, .inr (4, [.ref sra, .ref sva, .int (nI (((sp_rd K P S seed w T ilen fi su Z ((sp_num ilen fi 7 2).toInt32).toNatClampNeg).1).2.2.1)), .long (((sp_rd K P S seed w T ilen fi su Z ((sp_num ilen fi 7 2).toInt32).toNatClampNeg).1).2.2.2.1), .long (((sp_rd K P S seed w T ilen fi su Z ((sp_num ilen fi 7 2).toInt32).toNatClampNeg).1).2.2.2.2)])), (sra, .inl (cA 1, 40, .inr (.inl (((sp_rd K P S seed w T ilen fi su Z ((sp_num ilen fi 7 2).toInt32).toNatClampNeg).1).1)))), (sva, .inl (cA 1, 40, .inr (.inl (((sp_rd K P S seed w T ilen fi su Z ((sp_num ilen fi 7 2).toInt32).toNatClampNeg).1).2.1)))), (na, .inl (cA 0, 64, .inl ((sp_rd K P S seed w T ilen fi su Z ((sp_num ilen fi 7 2).toInt32).toNatClampNeg).2.1))), (oa, .inl (cA 1, 64, .inr (.inl ((sp_rd K P S seed w T ilen fi su Z ((sp_num ilen fi 7 2).toInt32).toNatClampNeg).2.2.1)))), (ra, .inl (cA 1, 72, .inr (.inl ((sp_rd K P S seed w T ilen fi su Z ((sp_num ilen fi 7 2).toInt32).toNatClampNeg).2.2.2.1)))), (ib, .inr (0, [.ref ica, .int (nI ilen)])), (ica, .inl (cA 0, 651, .inl fi)), (o, .inr (3, [.int (nI K), .int (nI P), .int (nI (K + P)), .int (nI S), .int seed, .ref wa, .int T, .ref ua, .ref sa])), (wa, .inl (cA 0, 12, .inl w)), (ua, .inl (cA 1, 8, .inr (.inl su)))] := hD
    refine lv_aload_n hx hb dX5_resume_38 rfl (lv_at hl 1 rfl) ?_
    refine va_getN (D := (dC, dI)) (ci := 2) (v := .ref sp) (C := RX2) (T := TX2) (N := 11) hx hb hts inX2 hown hK hP 2 rfl rfl 1 (by decide) (hk_1 _) (fun _ h9 => h9) rfl dX5_resume_39 ?_
    refine va_getN (D := (dC, dI)) (ci := 4) (v := .int (nI (((sp_rd K P S seed w T ilen fi su Z ((sp_num ilen fi 7 2).toInt32).toNatClampNeg).1).2.2.1))) (C := RX4) (T := TX4) (N := 5) hx hb hts inX4 hown hK hP 3 rfl rfl 2 (by decide) (hk_2 _) (fun _ h9 => h9) rfl dX5_resume_42 ?_
    have hP9 := hP.sub (ws' := [(fo, .inr (5, [.ref wta, .ref soa, .ref rea, .int (nI cnt), .ref fb, .int fs, .ref ib])), (rea, .inl (cA 3, 4, .inr (.inr (.inr (.inr fR))))), (ib, .inr (0, [.ref ica, .int (nI ilen)])), (ica, .inl (cA 0, 651, .inl fi)), (ro, .inr (2, [.ref o, .ref sp, .ref pe, .int ((sp_rd K P S seed w T ilen fi su Z ((sp_num ilen fi 7 2).toInt32).toNatClampNeg).2.2.2.2.2), .ref na, .ref oa, .ref ra, .int (nI ((sp_rd K P S seed w T ilen fi su Z ((sp_num ilen fi 7 2).toInt32).toNatClampNeg).2.2.2.2.1)), .int wr, .int tw, .int co])), (sp, .inr (4, [.ref sra, .ref sva, .int (nI (((sp_rd K P S seed w T ilen fi su Z ((sp_num ilen fi 7 2).toInt32).toNatClampNeg).1).2.2.1)), .long (((sp_rd K P S seed w T ilen fi su Z ((sp_num ilen fi 7 2).toInt32).toNatClampNeg).1).2.2.2.1), .long (((sp_rd K P S seed w T ilen fi su Z ((sp_num ilen fi 7 2).toInt32).toNatClampNeg).1).2.2.2.2)])), (sra, .inl (cA 1, 40, .inr (.inl (((sp_rd K P S seed w T ilen fi su Z ((sp_num ilen fi 7 2).toInt32).toNatClampNeg).1).1)))), (sva, .inl (cA 1, 40, .inr (.inl (((sp_rd K P S seed w T ilen fi su Z ((sp_num ilen fi 7 2).toInt32).toNatClampNeg).1).2.1)))), (na, .inl (cA 0, 64, .inl ((sp_rd K P S seed w T ilen fi su Z ((sp_num ilen fi 7 2).toInt32).toNatClampNeg).2.1))), (oa, .inl (cA 1, 64, .inr (.inl ((sp_rd K P S seed w T ilen fi su Z ((sp_num ilen fi 7 2).toInt32).toNatClampNeg).2.2.1)))), (ra, .inl (cA 1, 72, .inr (.inl ((sp_rd K P S seed w T ilen fi su Z ((sp_num ilen fi 7 2).toInt32).toNatClampNeg).2.2.2.1)))), (o, .inr (3, [.int (nI K), .int (nI P), .int (nI (K + P)), .int (nI S), .int seed, .ref wa, .int T, .ref ua, .ref sa])), (wa, .inl (cA 0, 12, .inl w)), (ua, .inl (cA 1, 8, .inr (.inl su)))]) [0, 1, 9, 10, 2, 3, 4, 5, 6, 7, 8, 11, 12, 13] rfl
    have hD9 := hD.sub (ws' := [(fo, .inr (5, [.ref wta, .ref soa, .ref rea, .int (nI cnt), .ref fb, .int fs, .ref ib])), (rea, .inl (cA 3, 4, .inr (.inr (.inr (.inr fR))))), (ib, .inr (0, [.ref ica, .int (nI ilen)])), (ica, .inl (cA 0, 651, .inl fi)), (ro, .inr (2, [.ref o, .ref sp, .ref pe, .int ((sp_rd K P S seed w T ilen fi su Z ((sp_num ilen fi 7 2).toInt32).toNatClampNeg).2.2.2.2.2), .ref na, .ref oa, .ref ra, .int (nI ((sp_rd K P S seed w T ilen fi su Z ((sp_num ilen fi 7 2).toInt32).toNatClampNeg).2.2.2.2.1)), .int wr, .int tw, .int co])), (sp, .inr (4, [.ref sra, .ref sva, .int (nI (((sp_rd K P S seed w T ilen fi su Z ((sp_num ilen fi 7 2).toInt32).toNatClampNeg).1).2.2.1)), .long (((sp_rd K P S seed w T ilen fi su Z ((sp_num ilen fi 7 2).toInt32).toNatClampNeg).1).2.2.2.1), .long (((sp_rd K P S seed w T ilen fi su Z ((sp_num ilen fi 7 2).toInt32).toNatClampNeg).1).2.2.2.2)])), (sra, .inl (cA 1, 40, .inr (.inl (((sp_rd K P S seed w T ilen fi su Z ((sp_num ilen fi 7 2).toInt32).toNatClampNeg).1).1)))), (sva, .inl (cA 1, 40, .inr (.inl (((sp_rd K P S seed w T ilen fi su Z ((sp_num ilen fi 7 2).toInt32).toNatClampNeg).1).2.1)))), (na, .inl (cA 0, 64, .inl ((sp_rd K P S seed w T ilen fi su Z ((sp_num ilen fi 7 2).toInt32).toNatClampNeg).2.1))), (oa, .inl (cA 1, 64, .inr (.inl ((sp_rd K P S seed w T ilen fi su Z ((sp_num ilen fi 7 2).toInt32).toNatClampNeg).2.2.1)))), (ra, .inl (cA 1, 72, .inr (.inl ((sp_rd K P S seed w T ilen fi su Z ((sp_num ilen fi 7 2).toInt32).toNatClampNeg).2.2.2.1)))), (o, .inr (3, [.int (nI K), .int (nI P), .int (nI (K + P)), .int (nI S), .int seed, .ref wa, .int T, .ref ua, .ref sa])), (wa, .inl (cA 0, 12, .inl w)), (ua, .inl (cA 1, 8, .inr (.inl su)))]) [0, 1, 9, 10, 2, 3, 4, 5, 6, 7, 8, 11, 12, 13] (by decide) rfl
    have e9_0 : (sp_resz K P S seed ilen fi Z (sp_rd K P S seed w T ilen fi su Z ((sp_num ilen fi 7 2).toInt32).toNatClampNeg)).2.2.2.2.2 = (sp_rd K P S seed w T ilen fi su Z ((sp_num ilen fi 7 2).toInt32).toNatClampNeg).2.2.2.2.2 := (by unfold sp_resz; first | rw [if_pos hn0] | rw [if_neg hn0])
    have e9_1 : nI ((sp_resz K P S seed ilen fi Z (sp_rd K P S seed w T ilen fi su Z ((sp_num ilen fi 7 2).toInt32).toNatClampNeg)).2.2.2.2.1) = nI ((sp_rd K P S seed w T ilen fi su Z ((sp_num ilen fi 7 2).toInt32).toNatClampNeg).2.2.2.2.1) := (by unfold sp_resz; first | rw [if_pos hn0] | rw [if_neg hn0])
    have e9_2 : nI (((sp_resz K P S seed ilen fi Z (sp_rd K P S seed w T ilen fi su Z ((sp_num ilen fi 7 2).toInt32).toNatClampNeg)).1).2.2.1) = nI (((sp_rd K P S seed w T ilen fi su Z ((sp_num ilen fi 7 2).toInt32).toNatClampNeg).1).2.2.1) := (by unfold sp_resz; first | rw [if_pos hn0] | rw [if_neg hn0])
    have e9_3 : ((sp_resz K P S seed ilen fi Z (sp_rd K P S seed w T ilen fi su Z ((sp_num ilen fi 7 2).toInt32).toNatClampNeg)).1).2.2.2.1 = ((sp_rd K P S seed w T ilen fi su Z ((sp_num ilen fi 7 2).toInt32).toNatClampNeg).1).2.2.2.1 := (by unfold sp_resz; first | rw [if_pos hn0] | rw [if_neg hn0])
    have e9_4 : ((sp_resz K P S seed ilen fi Z (sp_rd K P S seed w T ilen fi su Z ((sp_num ilen fi 7 2).toInt32).toNatClampNeg)).1).2.2.2.2 = ((sp_rd K P S seed w T ilen fi su Z ((sp_num ilen fi 7 2).toInt32).toNatClampNeg).1).2.2.2.2 := (by unfold sp_resz; first | rw [if_pos hn0] | rw [if_neg hn0])
    have e9_5 : ((sp_resz K P S seed ilen fi Z (sp_rd K P S seed w T ilen fi su Z ((sp_num ilen fi 7 2).toInt32).toNatClampNeg)).1).1 = ((sp_rd K P S seed w T ilen fi su Z ((sp_num ilen fi 7 2).toInt32).toNatClampNeg).1).1 := (by unfold sp_resz; first | rw [if_pos hn0] | rw [if_neg hn0])
    have e9_6 : ((sp_resz K P S seed ilen fi Z (sp_rd K P S seed w T ilen fi su Z ((sp_num ilen fi 7 2).toInt32).toNatClampNeg)).1).2.1 = ((sp_rd K P S seed w T ilen fi su Z ((sp_num ilen fi 7 2).toInt32).toNatClampNeg).1).2.1 := (by unfold sp_resz; first | rw [if_pos hn0] | rw [if_neg hn0])
    have e9_7 : (sp_resz K P S seed ilen fi Z (sp_rd K P S seed w T ilen fi su Z ((sp_num ilen fi 7 2).toInt32).toNatClampNeg)).2.1 = (sp_rd K P S seed w T ilen fi su Z ((sp_num ilen fi 7 2).toInt32).toNatClampNeg).2.1 := (by unfold sp_resz; first | rw [if_pos hn0] | rw [if_neg hn0])
    have e9_8 : (sp_resz K P S seed ilen fi Z (sp_rd K P S seed w T ilen fi su Z ((sp_num ilen fi 7 2).toInt32).toNatClampNeg)).2.2.1 = (sp_rd K P S seed w T ilen fi su Z ((sp_num ilen fi 7 2).toInt32).toNatClampNeg).2.2.1 := (by unfold sp_resz; first | rw [if_pos hn0] | rw [if_neg hn0])
    have e9_9 : (sp_resz K P S seed ilen fi Z (sp_rd K P S seed w T ilen fi su Z ((sp_num ilen fi 7 2).toInt32).toNatClampNeg)).2.2.2.1 = (sp_rd K P S seed w T ilen fi su Z ((sp_num ilen fi 7 2).toInt32).toNatClampNeg).2.2.2.1 := (by unfold sp_resz; first | rw [if_pos hn0] | rw [if_neg hn0])
    have e9 : ([(fo, .inr (5, [.ref wta, .ref soa, .ref rea, .int (nI cnt), .ref fb, .int fs, .ref ib])), (rea, .inl (cA 3, 4, .inr (.inr (.inr (.inr fR))))), (ib, .inr (0, [.ref ica, .int (nI ilen)])), (ica, .inl (cA 0, 651, .inl fi)), (ro, .inr (2, [.ref o, .ref sp, .ref pe, .int ((sp_resz K P S seed ilen fi Z (sp_rd K P S seed w T ilen fi su Z ((sp_num ilen fi 7 2).toInt32).toNatClampNeg)).2.2.2.2.2), .ref na, .ref oa, .ref ra, .int (nI ((sp_resz K P S seed ilen fi Z (sp_rd K P S seed w T ilen fi su Z ((sp_num ilen fi 7 2).toInt32).toNatClampNeg)).2.2.2.2.1)), .int wr, .int tw, .int co])), (sp, .inr (4, [.ref sra, .ref sva, .int (nI (((sp_resz K P S seed ilen fi Z (sp_rd K P S seed w T ilen fi su Z ((sp_num ilen fi 7 2).toInt32).toNatClampNeg)).1).2.2.1)), .long (((sp_resz K P S seed ilen fi Z (sp_rd K P S seed w T ilen fi su Z ((sp_num ilen fi 7 2).toInt32).toNatClampNeg)).1).2.2.2.1), .long (((sp_resz K P S seed ilen fi Z (sp_rd K P S seed w T ilen fi su Z ((sp_num ilen fi 7 2).toInt32).toNatClampNeg)).1).2.2.2.2)])), (sra, .inl (cA 1, 40, .inr (.inl (((sp_resz K P S seed ilen fi Z (sp_rd K P S seed w T ilen fi su Z ((sp_num ilen fi 7 2).toInt32).toNatClampNeg)).1).1)))), (sva, .inl (cA 1, 40, .inr (.inl (((sp_resz K P S seed ilen fi Z (sp_rd K P S seed w T ilen fi su Z ((sp_num ilen fi 7 2).toInt32).toNatClampNeg)).1).2.1)))), (na, .inl (cA 0, 64, .inl ((sp_resz K P S seed ilen fi Z (sp_rd K P S seed w T ilen fi su Z ((sp_num ilen fi 7 2).toInt32).toNatClampNeg)).2.1))), (oa, .inl (cA 1, 64, .inr (.inl ((sp_resz K P S seed ilen fi Z (sp_rd K P S seed w T ilen fi su Z ((sp_num ilen fi 7 2).toInt32).toNatClampNeg)).2.2.1)))), (ra, .inl (cA 1, 72, .inr (.inl ((sp_resz K P S seed ilen fi Z (sp_rd K P S seed w T ilen fi su Z ((sp_num ilen fi 7 2).toInt32).toNatClampNeg)).2.2.2.1)))), (o, .inr (3, [.int (nI K), .int (nI P), .int (nI (K + P)), .int (nI S), .int seed, .ref wa, .int T, .ref ua, .ref sa])), (wa, .inl (cA 0, 12, .inl w)), (ua, .inl (cA 1, 8, .inr (.inl su)))] : va_W) = [(fo, .inr (5, [.ref wta, .ref soa, .ref rea, .int (nI cnt), .ref fb, .int fs, .ref ib])), (rea, .inl (cA 3, 4, .inr (.inr (.inr (.inr fR))))), (ib, .inr (0, [.ref ica, .int (nI ilen)])), (ica, .inl (cA 0, 651, .inl fi)), (ro, .inr (2, [.ref o, .ref sp, .ref pe, .int ((sp_rd K P S seed w T ilen fi su Z ((sp_num ilen fi 7 2).toInt32).toNatClampNeg).2.2.2.2.2), .ref na, .ref oa, .ref ra, .int (nI ((sp_rd K P S seed w T ilen fi su Z ((sp_num ilen fi 7 2).toInt32).toNatClampNeg).2.2.2.2.1)), .int wr, .int tw, .int co])), (sp, .inr (4, [.ref sra, .ref sva, .int (nI (((sp_rd K P S seed w T ilen fi su Z ((sp_num ilen fi 7 2).toInt32).toNatClampNeg).1).2.2.1)), .long (((sp_rd K P S seed w T ilen fi su Z ((sp_num ilen fi 7 2).toInt32).toNatClampNeg).1).2.2.2.1), .long (((sp_rd K P S seed w T ilen fi su Z ((sp_num ilen fi 7 2).toInt32).toNatClampNeg).1).2.2.2.2)])), (sra, .inl (cA 1, 40, .inr (.inl (((sp_rd K P S seed w T ilen fi su Z ((sp_num ilen fi 7 2).toInt32).toNatClampNeg).1).1)))), (sva, .inl (cA 1, 40, .inr (.inl (((sp_rd K P S seed w T ilen fi su Z ((sp_num ilen fi 7 2).toInt32).toNatClampNeg).1).2.1)))), (na, .inl (cA 0, 64, .inl ((sp_rd K P S seed w T ilen fi su Z ((sp_num ilen fi 7 2).toInt32).toNatClampNeg).2.1))), (oa, .inl (cA 1, 64, .inr (.inl ((sp_rd K P S seed w T ilen fi su Z ((sp_num ilen fi 7 2).toInt32).toNatClampNeg).2.2.1)))), (ra, .inl (cA 1, 72, .inr (.inl ((sp_rd K P S seed w T ilen fi su Z ((sp_num ilen fi 7 2).toInt32).toNatClampNeg).2.2.2.1)))), (o, .inr (3, [.int (nI K), .int (nI P), .int (nI (K + P)), .int (nI S), .int seed, .ref wa, .int T, .ref ua, .ref sa])), (wa, .inl (cA 0, 12, .inl w)), (ua, .inl (cA 1, 8, .inr (.inl su)))] := by rw [e9_0, e9_1, e9_2, e9_3, e9_4, e9_5, e9_6, e9_7, e9_8, e9_9]
    exact W.iret (v := nI (((sp_rd K P S seed w T ilen fi su Z ((sp_num ilen fi 7 2).toInt32).toNatClampNeg).1).2.2.1)) hx hb hr (fun t9 ht9 hW9 => ⟨⟨nI (((sp_rd K P S seed w T ilen fi su Z ((sp_num ilen fi 7 2).toInt32).toNatClampNeg).1).2.2.1), (), rfl, (by unfold sp_resr; rw [if_pos hn0]), by rw [ht9, e9]; exact hP9, by rw [e9]; exact hD9⟩, hS.F ht9⟩) hS.2.2 dX5_resume_45
  · have c_3 : ¬ ((sp_fault K P S seed ilen fi) = 0) := c_3
    have hn0 := c_3
    refine lv_bipush (v := (-10)) hx hb dX5_resume_25 (by decide) ?_
    refine lv_iload_n hx hb dX5_resume_27 rfl (lv_at hl 0 rfl) ?_
    refine lv_isub hx hb dX5_resume_28 ?_
    have hP9 := hP.sub (ws' := [(fo, .inr (5, [.ref wta, .ref soa, .ref rea, .int (nI cnt), .ref fb, .int fs, .ref ib])), (rea, .inl (cA 3, 4, .inr (.inr (.inr (.inr fR))))), (ib, .inr (0, [.ref ica, .int (nI ilen)])), (ica, .inl (cA 0, 651, .inl fi)), (ro, .inr (2, [.ref o, .ref sp, .ref pe, .int Z.2.2.2.2.2, .ref na, .ref oa, .ref ra, .int (nI Z.2.2.2.2.1), .int wr, .int tw, .int co])), (sp, .inr (4, [.ref sra, .ref sva, .int (nI Z.1.2.2.1), .long Z.1.2.2.2.1, .long Z.1.2.2.2.2])), (sra, .inl (cA 1, 40, .inr (.inl Z.1.1))), (sva, .inl (cA 1, 40, .inr (.inl Z.1.2.1))), (na, .inl (cA 0, 64, .inl Z.2.1)), (oa, .inl (cA 1, 64, .inr (.inl Z.2.2.1))), (ra, .inl (cA 1, 72, .inr (.inl Z.2.2.2.1))), (o, .inr (3, [.int (nI K), .int (nI P), .int (nI (K + P)), .int (nI S), .int seed, .ref wa, .int T, .ref ua, .ref sa])), (wa, .inl (cA 0, 12, .inl w)), (ua, .inl (cA 1, 8, .inr (.inl su)))]) [0, 1, 2, 3, 4, 5, 6, 7, 8, 9, 10, 11, 12, 13] rfl
    have hD9 := hD.sub (ws' := [(fo, .inr (5, [.ref wta, .ref soa, .ref rea, .int (nI cnt), .ref fb, .int fs, .ref ib])), (rea, .inl (cA 3, 4, .inr (.inr (.inr (.inr fR))))), (ib, .inr (0, [.ref ica, .int (nI ilen)])), (ica, .inl (cA 0, 651, .inl fi)), (ro, .inr (2, [.ref o, .ref sp, .ref pe, .int Z.2.2.2.2.2, .ref na, .ref oa, .ref ra, .int (nI Z.2.2.2.2.1), .int wr, .int tw, .int co])), (sp, .inr (4, [.ref sra, .ref sva, .int (nI Z.1.2.2.1), .long Z.1.2.2.2.1, .long Z.1.2.2.2.2])), (sra, .inl (cA 1, 40, .inr (.inl Z.1.1))), (sva, .inl (cA 1, 40, .inr (.inl Z.1.2.1))), (na, .inl (cA 0, 64, .inl Z.2.1)), (oa, .inl (cA 1, 64, .inr (.inl Z.2.2.1))), (ra, .inl (cA 1, 72, .inr (.inl Z.2.2.2.1))), (o, .inr (3, [.int (nI K), .int (nI P), .int (nI (K + P)), .int (nI S), .int seed, .ref wa, .int T, .ref ua, .ref sa])), (wa, .inl (cA 0, 12, .inl w)), (ua, .inl (cA 1, 8, .inr (.inl su)))]) [0, 1, 2, 3, 4, 5, 6, 7, 8, 9, 10, 11, 12, 13] (by decide) rfl
    have e9_0 : (sp_resz K P S seed ilen fi Z (sp_rd K P S seed w T ilen fi su Z ((sp_num ilen fi 7 2).toInt32).toNatClampNeg)).2.2.2.2.2 = Z.2.2.2.2.2 := (by unfold sp_resz; first | rw [if_pos hn0] | rw [if_neg hn0])
    have e9_1 : nI ((sp_resz K P S seed ilen fi Z (sp_rd K P S seed w T ilen fi su Z ((sp_num ilen fi 7 2).toInt32).toNatClampNeg)).2.2.2.2.1) = nI Z.2.2.2.2.1 := (by unfold sp_resz; first | rw [if_pos hn0] | rw [if_neg hn0])
    have e9_2 : nI (((sp_resz K P S seed ilen fi Z (sp_rd K P S seed w T ilen fi su Z ((sp_num ilen fi 7 2).toInt32).toNatClampNeg)).1).2.2.1) = nI Z.1.2.2.1 := (by unfold sp_resz; first | rw [if_pos hn0] | rw [if_neg hn0])
    have e9_3 : ((sp_resz K P S seed ilen fi Z (sp_rd K P S seed w T ilen fi su Z ((sp_num ilen fi 7 2).toInt32).toNatClampNeg)).1).2.2.2.1 = Z.1.2.2.2.1 := (by unfold sp_resz; first | rw [if_pos hn0] | rw [if_neg hn0])
    have e9_4 : ((sp_resz K P S seed ilen fi Z (sp_rd K P S seed w T ilen fi su Z ((sp_num ilen fi 7 2).toInt32).toNatClampNeg)).1).2.2.2.2 = Z.1.2.2.2.2 := (by unfold sp_resz; first | rw [if_pos hn0] | rw [if_neg hn0])
    have e9_5 : ((sp_resz K P S seed ilen fi Z (sp_rd K P S seed w T ilen fi su Z ((sp_num ilen fi 7 2).toInt32).toNatClampNeg)).1).1 = Z.1.1 := (by unfold sp_resz; first | rw [if_pos hn0] | rw [if_neg hn0])
    have e9_6 : ((sp_resz K P S seed ilen fi Z (sp_rd K P S seed w T ilen fi su Z ((sp_num ilen fi 7 2).toInt32).toNatClampNeg)).1).2.1 = Z.1.2.1 := (by unfold sp_resz; first | rw [if_pos hn0] | rw [if_neg hn0])
    have e9_7 : (sp_resz K P S seed ilen fi Z (sp_rd K P S seed w T ilen fi su Z ((sp_num ilen fi 7 2).toInt32).toNatClampNeg)).2.1 = Z.2.1 := (by unfold sp_resz; first | rw [if_pos hn0] | rw [if_neg hn0])
    have e9_8 : (sp_resz K P S seed ilen fi Z (sp_rd K P S seed w T ilen fi su Z ((sp_num ilen fi 7 2).toInt32).toNatClampNeg)).2.2.1 = Z.2.2.1 := (by unfold sp_resz; first | rw [if_pos hn0] | rw [if_neg hn0])
    have e9_9 : (sp_resz K P S seed ilen fi Z (sp_rd K P S seed w T ilen fi su Z ((sp_num ilen fi 7 2).toInt32).toNatClampNeg)).2.2.2.1 = Z.2.2.2.1 := (by unfold sp_resz; first | rw [if_pos hn0] | rw [if_neg hn0])
    have e9 : ([(fo, .inr (5, [.ref wta, .ref soa, .ref rea, .int (nI cnt), .ref fb, .int fs, .ref ib])), (rea, .inl (cA 3, 4, .inr (.inr (.inr (.inr fR))))), (ib, .inr (0, [.ref ica, .int (nI ilen)])), (ica, .inl (cA 0, 651, .inl fi)), (ro, .inr (2, [.ref o, .ref sp, .ref pe, .int ((sp_resz K P S seed ilen fi Z (sp_rd K P S seed w T ilen fi su Z ((sp_num ilen fi 7 2).toInt32).toNatClampNeg)).2.2.2.2.2), .ref na, .ref oa, .ref ra, .int (nI ((sp_resz K P S seed ilen fi Z (sp_rd K P S seed w T ilen fi su Z ((sp_num ilen fi 7 2).toInt32).toNatClampNeg)).2.2.2.2.1)), .int wr, .int tw, .int co])), (sp, .inr (4, [.ref sra, .ref sva, .int (nI (((sp_resz K P S seed ilen fi Z (sp_rd K P S seed w T ilen fi su Z ((sp_num ilen fi 7 2).toInt32).toNatClampNeg)).1).2.2.1)), .long (((sp_resz K P S seed ilen fi Z (sp_rd K P S seed w T ilen fi su Z ((sp_num ilen fi 7 2).toInt32).toNatClampNeg)).1).2.2.2.1), .long (((sp_resz K P S seed ilen fi Z (sp_rd K P S seed w T ilen fi su Z ((sp_num ilen fi 7 2).toInt32).toNatClampNeg)).1).2.2.2.2)])), (sra, .inl (cA 1, 40, .inr (.inl (((sp_resz K P S seed ilen fi Z (sp_rd K P S seed w T ilen fi su Z ((sp_num ilen fi 7 2).toInt32).toNatClampNeg)).1).1)))), (sva, .inl (cA 1, 40, .inr (.inl (((sp_resz K P S seed ilen fi Z (sp_rd K P S seed w T ilen fi su Z ((sp_num ilen fi 7 2).toInt32).toNatClampNeg)).1).2.1)))), (na, .inl (cA 0, 64, .inl ((sp_resz K P S seed ilen fi Z (sp_rd K P S seed w T ilen fi su Z ((sp_num ilen fi 7 2).toInt32).toNatClampNeg)).2.1))), (oa, .inl (cA 1, 64, .inr (.inl ((sp_resz K P S seed ilen fi Z (sp_rd K P S seed w T ilen fi su Z ((sp_num ilen fi 7 2).toInt32).toNatClampNeg)).2.2.1)))), (ra, .inl (cA 1, 72, .inr (.inl ((sp_resz K P S seed ilen fi Z (sp_rd K P S seed w T ilen fi su Z ((sp_num ilen fi 7 2).toInt32).toNatClampNeg)).2.2.2.1)))), (o, .inr (3, [.int (nI K), .int (nI P), .int (nI (K + P)), .int (nI S), .int seed, .ref wa, .int T, .ref ua, .ref sa])), (wa, .inl (cA 0, 12, .inl w)), (ua, .inl (cA 1, 8, .inr (.inl su)))] : va_W) = [(fo, .inr (5, [.ref wta, .ref soa, .ref rea, .int (nI cnt), .ref fb, .int fs, .ref ib])), (rea, .inl (cA 3, 4, .inr (.inr (.inr (.inr fR))))), (ib, .inr (0, [.ref ica, .int (nI ilen)])), (ica, .inl (cA 0, 651, .inl fi)), (ro, .inr (2, [.ref o, .ref sp, .ref pe, .int Z.2.2.2.2.2, .ref na, .ref oa, .ref ra, .int (nI Z.2.2.2.2.1), .int wr, .int tw, .int co])), (sp, .inr (4, [.ref sra, .ref sva, .int (nI Z.1.2.2.1), .long Z.1.2.2.2.1, .long Z.1.2.2.2.2])), (sra, .inl (cA 1, 40, .inr (.inl Z.1.1))), (sva, .inl (cA 1, 40, .inr (.inl Z.1.2.1))), (na, .inl (cA 0, 64, .inl Z.2.1)), (oa, .inl (cA 1, 64, .inr (.inl Z.2.2.1))), (ra, .inl (cA 1, 72, .inr (.inl Z.2.2.2.1))), (o, .inr (3, [.int (nI K), .int (nI P), .int (nI (K + P)), .int (nI S), .int seed, .ref wa, .int T, .ref ua, .ref sa])), (wa, .inl (cA 0, 12, .inl w)), (ua, .inl (cA 1, 8, .inr (.inl su)))] := by rw [e9_0, e9_1, e9_2, e9_3, e9_4, e9_5, e9_6, e9_7, e9_8, e9_9]
    exact W.iret (v := (-10) - (sp_fault K P S seed ilen fi)) hx hb hr (fun t9 ht9 hW9 => ⟨⟨(-10) - (sp_fault K P S seed ilen fi), (), rfl, (by unfold sp_resr; rw [if_neg hn0]), by rw [ht9, e9]; exact hP9, by rw [e9]; exact hD9⟩, hS.F ht9⟩) hS.2.2 dX5_resume_29
set_option maxHeartbeats 4000000 in
set_option maxRecDepth 100000 in
theorem c_F_source_no (l : Launch) (dC : Nat → ClassId) (dI : Nat → Nat → Nat) (cA : Nat → ClassId) (fo : Nat) (wta : Nat) (soa : Nat) (rea : Nat) (fb : Nat) (ib : Nat) (cnt : Nat) (fs : Int32) (wt : Nat → Int32) (k0 : Int32) (p0 : Int32) (z0 : Int32) (seed : Int32) (hcnt : cnt ≤ 4) (hno : ¬ sp_srcr cnt wt k0 p0 z0 = 0) : Met l yX5_source (kw_X5_source) ({ frames := 1, cells := 0, slots := 0, locals := 25 }) (va_Pc [.ref fo, .int k0, .int p0, .int z0, .int seed] (fun U => kRO dC dI cA [(fo, .inr (5, [.ref wta, .ref soa, .ref rea, .int (nI cnt), .ref fb, .int fs, .ref ib])), (wta, .inl (cA 0, 12, .inl wt))] U)) (vp_Si (fun r => r = sp_srcr cnt wt k0 p0 z0)) 0 0 (fun _ => False) := by
  refine Met.ofW (cc := cX5_source) (maxL := 6) (ret := (some .int)) (by decide) rfl ?_
  intro p e s m args below meth c s₁ B hml hv
  obtain ⟨rfl, hP, hK, hN⟩ := hv
  have hx := B.exec
  have hb := B.bytes
  have hr := B.returns
  have hts0 := atoms_spec (ws := (kw_X5_source)) B.pre
  have hts : ∀ w ∈ TB, w.before _ s = true := fun w h => hts0 w (List.mem_cons_of_mem _ h)
  have hown : s.vm.findClass RX5 = some m.cls := findClass_of_methodNamed B.named
  have hlocks := B.notSynchronized
  have hk_0 := hts (.fieldLink RX5 9 "FountainRows" "weights" "[I") tb_227
  have hk_1 := hts (.fieldLink RX5 34 "FountainRows" "sourceCount" "I") tb_224
  have hl := lv_entry ([.ref fo, .int k0, .int p0, .int z0, .int seed]) (n := 6) (Nat.le_of_ble_eq_true rfl)
  rw [lg_entry_eq]
  generalize (lg_sl ([.ref fo, .int k0, .int p0, .int z0, .int seed]) ++ List.replicate (6 - (lg_sl ([.ref fo, .int k0, .int p0, .int z0, .int seed])).length) Slot.unset).toArray = ls at hl ⊢
  have hl : lv_has ls 6 [(0, .ref fo), (1, .int k0), (2, .int p0), (3, .int z0), (4, .int seed)] := hl
  refine lv_iload_n hx hb dX5_source_0 rfl (lv_at hl 1 rfl) ?_
  refine lv_iconst (v := 1) hx hb dX5_source_1 (by decide) ?_
  refine lv_icmp_lt (tgt := 32) hx hb dX5_source_2 (by decide) (fun c_1 => ?_) (fun c_1 => ?_)
  · have c_1 : k0 < 1 := c_1
    refine lv_bipush (v := (-2)) hx hb dX5_source_32 (by decide) ?_
    exact W.iret (v := (-2)) hx hb hr (fun t9 ht9 hW9 => ⟨(-2), rfl, (by unfold sp_srcr; rw [if_pos c_1] <;> rfl), ht9⟩) (fun _ h => absurd h List.not_mem_nil) dX5_source_34
  · have c_1 : ¬ (k0 < 1) := c_1
    refine lv_iload_n hx hb dX5_source_5 rfl (lv_at hl 1 rfl) ?_
    refine lv_bipush (v := 32) hx hb dX5_source_6 (by decide) ?_
    refine lv_icmp_gt (tgt := 32) hx hb dX5_source_8 (by decide) (fun c_2 => ?_) (fun c_2 => ?_)
    · have c_2 : 32 < k0 := c_2
      refine lv_bipush (v := (-2)) hx hb dX5_source_32 (by decide) ?_
      exact W.iret (v := (-2)) hx hb hr (fun t9 ht9 hW9 => ⟨(-2), rfl, (by unfold sp_srcr; rw [if_neg c_1, if_pos c_2] <;> rfl), ht9⟩) (fun _ h => absurd h List.not_mem_nil) dX5_source_34
    · have c_2 : ¬ (32 < k0) := c_2
      refine lv_iload_n hx hb dX5_source_11 rfl (lv_at hl 2 rfl) ?_
      refine lv_if_lt (tgt := 32) hx hb dX5_source_12 (by decide) (fun c_3 => ?_) (fun c_3 => ?_)
      · have c_3 : p0 < 0 := c_3
        refine lv_bipush (v := (-2)) hx hb dX5_source_32 (by decide) ?_
        exact W.iret (v := (-2)) hx hb hr (fun t9 ht9 hW9 => ⟨(-2), rfl, (by unfold sp_srcr; rw [if_neg c_1, if_neg c_2, if_pos c_3] <;> rfl), ht9⟩) (fun _ h => absurd h List.not_mem_nil) dX5_source_34
      · have c_3 : ¬ (p0 < 0) := c_3
        refine lv_iload_n hx hb dX5_source_15 rfl (lv_at hl 2 rfl) ?_
        refine lv_bipush (v := 8) hx hb dX5_source_16 (by decide) ?_
        refine lv_icmp_gt (tgt := 32) hx hb dX5_source_18 (by decide) (fun c_4 => ?_) (fun c_4 => ?_)
        · have c_4 : 8 < p0 := c_4
          refine lv_bipush (v := (-2)) hx hb dX5_source_32 (by decide) ?_
          exact W.iret (v := (-2)) hx hb hr (fun t9 ht9 hW9 => ⟨(-2), rfl, (by unfold sp_srcr; rw [if_neg c_1, if_neg c_2, if_neg c_3, if_pos c_4] <;> rfl), ht9⟩) (fun _ h => absurd h List.not_mem_nil) dX5_source_34
        · have c_4 : ¬ (8 < p0) := c_4
          refine lv_iload_n hx hb dX5_source_21 rfl (lv_at hl 3 rfl) ?_
          refine lv_iconst (v := 1) hx hb dX5_source_22 (by decide) ?_
          refine lv_icmp_lt (tgt := 32) hx hb dX5_source_23 (by decide) (fun c_5 => ?_) (fun c_5 => ?_)
          · have c_5 : z0 < 1 := c_5
            refine lv_bipush (v := (-2)) hx hb dX5_source_32 (by decide) ?_
            exact W.iret (v := (-2)) hx hb hr (fun t9 ht9 hW9 => ⟨(-2), rfl, (by unfold sp_srcr; rw [if_neg c_1, if_neg c_2, if_neg c_3, if_neg c_4, if_pos c_5] <;> rfl), ht9⟩) (fun _ h => absurd h List.not_mem_nil) dX5_source_34
          · have c_5 : ¬ (z0 < 1) := c_5
            refine lv_iload_n hx hb dX5_source_26 rfl (lv_at hl 3 rfl) ?_
            refine lv_bipush (v := 8) hx hb dX5_source_27 (by decide) ?_
            refine lv_icmp_le (tgt := 35) hx hb dX5_source_29 (by decide) (fun c_6 => ?_) (fun c_6 => ?_)
            · have c_6 : z0 ≤ 8 := c_6
              refine lv_aload_n hx hb dX5_source_35 rfl (lv_at hl 0 rfl) ?_
              refine va_get (D := (dC, dI)) (ci := 5) (v := .ref wta) (C := RX5) (T := TX5) (N := 7) hx hb hts inX5 hown hK hP 0 rfl rfl 0 (by decide) hk_0 (fun _ h9 => h9) rfl dX5_source_36 ?_
              have hPc := hP.sub (ws' := [(wta, .inl (cA 0, 12, .inl wt))]) [1] rfl
              refine kq_csi (va_runS (As := [.ref wta]) (rest := []) ⟨hx, hb, hml, hown, hts⟩ (c_FountainRows_totalOf l dC dI cA wta 12 wt (by decide)) (va_cwS 1 hts (kg_S tb_296 tb_206 tb_54 tb_205) rfl rfl rfl (by decide +kernel) ⟨Nat.le_of_ble_eq_true rfl, Nat.le_of_ble_eq_true rfl⟩) (kps_ro hK hN hPc) rfl rfl hl.1 rfl (lv_room (Nat.le_of_ble_eq_true rfl)) dX5_source_39 ⟨Nat.le_of_ble_eq_true rfl, Nat.le_of_ble_eq_true rfl⟩) (fun r_7 hr_7 => ?_)
              subst hr_7
              refine lv_if_ne (tgt := 48) hx hb dX5_source_42 (by decide) (fun c_8 => ?_) (fun c_8 => ?_)
              · have c_8 : ¬ ((bx_sum wt 12) = 0) := c_8
                refine lv_aload_n hx hb dX5_source_48 rfl (lv_at hl 0 rfl) ?_
                refine va_get (D := (dC, dI)) (ci := 5) (v := .int (nI cnt)) (C := RX5) (T := TX5) (N := 7) hx hb hts inX5 hown hK hP 0 rfl rfl 3 (by decide) hk_1 (fun _ h9 => h9) rfl dX5_source_49 ?_
                refine lv_iconst (v := 4) hx hb dX5_source_52 (by decide) ?_
                refine lv_icmp_lt (tgt := 59) hx hb dX5_source_53 (by decide) (fun c_9 => ?_) (fun c_9 => ?_)
                · have c_9 : (nI cnt) < 4 := c_9
                  exact absurd (by unfold sp_srcr; rw [if_neg c_1, if_neg c_2, if_neg c_3, if_neg c_4, if_neg c_5, if_pos c_6, if_neg c_8, if_pos c_9]) hno
                · have c_9 : ¬ ((nI cnt) < 4) := c_9
                  refine lv_bipush (v := (-4)) hx hb dX5_source_56 (by decide) ?_
                  exact W.iret (v := (-4)) hx hb hr (fun t9 ht9 hW9 => ⟨(-4), rfl, (by unfold sp_srcr; rw [if_neg c_1, if_neg c_2, if_neg c_3, if_neg c_4, if_neg c_5, if_pos c_6, if_neg c_8, if_neg c_9] <;> rfl), ht9⟩) (fun _ h => absurd h List.not_mem_nil) dX5_source_58
              · have c_8 : (bx_sum wt 12) = 0 := c_8
                refine lv_bipush (v := (-3)) hx hb dX5_source_45 (by decide) ?_
                exact W.iret (v := (-3)) hx hb hr (fun t9 ht9 hW9 => ⟨(-3), rfl, (by unfold sp_srcr; rw [if_neg c_1, if_neg c_2, if_neg c_3, if_neg c_4, if_neg c_5, if_pos c_6, if_pos c_8] <;> rfl), ht9⟩) (fun _ h => absurd h List.not_mem_nil) dX5_source_47
            · have c_6 : ¬ (z0 ≤ 8) := c_6
              refine lv_bipush (v := (-2)) hx hb dX5_source_32 (by decide) ?_
              exact W.iret (v := (-2)) hx hb hr (fun t9 ht9 hW9 => ⟨(-2), rfl, (by unfold sp_srcr; rw [if_neg c_1, if_neg c_2, if_neg c_3, if_neg c_4, if_neg c_5, if_neg c_6] <;> rfl), ht9⟩) (fun _ h => absurd h List.not_mem_nil) dX5_source_34
set_option maxHeartbeats 4000000 in
set_option maxRecDepth 100000 in
theorem c_F_source_at (l : Launch) (dC : Nat → ClassId) (dI : Nat → Nat → Nat) (cA : Nat → ClassId) (sz : Nat) (fo : Nat) (wta : Nat) (soa : Nat) (rea : Nat) (fb : Nat) (ib : Nat) (cnt : Nat) (fs : Int32) (wt : Nat → Int32) (fS : Nat → Option Nat) (fR : Nat → Option Nat) (K : Nat) (P : Nat) (S : Nat) (seed : Int32) (hcnt : cnt < 4) (hK1 : 1 ≤ K) (hK32 : K ≤ 32) (hP8 : P ≤ 8) (hS1 : 1 ≤ S) (hS8 : S ≤ 8) (htot : ¬ bx_sum wt 12 = 0) : Met l yX5_source (kw_X5_source) ({ frames := 5, cells := 12, slots := 360, locals := 115 }) (va_Pc [.ref fo, .int (nI K), .int (nI P), .int (nI S), .int seed] (fun U => kRW dC dI cA [(fo, .inr (5, [.ref wta, .ref soa, .ref rea, .int (nI cnt), .ref fb, .int fs, .ref ib])), (wta, .inl (cA 0, 12, .inl wt)), (soa, .inl (cA 2, 4, .inr (.inr (.inr (.inr fS))))), (rea, .inl (cA 3, 4, .inr (.inr (.inr (.inr fR)))))] sz U)) (va_Qi (fun r (u : Nat × Nat × Nat × Nat × Nat × Nat × Nat × Nat × Nat × Nat × Nat × Nat) => r = nI cnt) (fun (u : Nat × Nat × Nat × Nat × Nat × Nat × Nat × Nat × Nat × Nat × Nat × Nat) t => kB dC dI (va_A [(fo, .inr (5, [.ref wta, .ref soa, .ref rea, .int (nI cnt), .ref fb, .int fs, .ref ib])), (wta, .inl (cA 0, 12, .inl wt)), (soa, .inl (cA 2, 4, .inr (.inr (.inr (.inr fS))))), (rea, .inl (cA 3, 4, .inr (.inr (.inr (.inr fR)))))] sz) [(fo, .inr (5, [.ref wta, .ref soa, .ref rea, .int (nI (cnt + 1)), .ref fb, .int fs, .ref ib])), (wta, .inl (cA 0, 12, .inl wt)), (soa, .inl (cA 2, 4, .inr (.inr (.inr (.inr (va_up fS cnt (some u.1))))))), (rea, .inl (cA 3, 4, .inr (.inr (.inr (.inr (va_up fR cnt (some u.2.2.2.2.1))))))), (u.1, .inr (3, [.int (nI K), .int (nI P), .int (nI (K + P)), .int (nI S), .int seed, .ref u.2.1, .int (bx_sum (va_cpy wt (fun _ => 0) 0 0 12) 12), .ref u.2.2.1, .ref u.2.2.2.1])), (u.2.1, .inl (cA 0, 12, .inl (va_cpy wt (fun _ => 0) 0 0 12))), (u.2.2.1, .inl (cA 1, 8, .inr (.inl (sp_sv K P seed P)))), (u.2.2.2.1, .inl (cA 1, 32, .inr (.inl (fun _ => 0)))), (u.2.2.2.2.1, .inr (2, [.ref u.1, .ref u.2.2.2.2.2.1, .ref u.2.2.2.2.2.2.2.2.1, .int ((sp_rd0 K P (sp_sv K P seed P) sp_z00).2.2.2.2.2), .ref u.2.2.2.2.2.2.2.2.2.1, .ref u.2.2.2.2.2.2.2.2.2.2.1, .ref u.2.2.2.2.2.2.2.2.2.2.2, .int (nI ((sp_rd0 K P (sp_sv K P seed P) sp_z00).2.2.2.2.1)), .int 0, .int 0, .int 0])), (u.2.2.2.2.2.1, .inr (4, [.ref u.2.2.2.2.2.2.1, .ref u.2.2.2.2.2.2.2.1, .int (nI (((sp_rd0 K P (sp_sv K P seed P) sp_z00).1).2.2.1)), .long (((sp_rd0 K P (sp_sv K P seed P) sp_z00).1).2.2.2.1), .long (((sp_rd0 K P (sp_sv K P seed P) sp_z00).1).2.2.2.2)])), (u.2.2.2.2.2.2.1, .inl (cA 1, 40, .inr (.inl (((sp_rd0 K P (sp_sv K P seed P) sp_z00).1).1)))), (u.2.2.2.2.2.2.2.1, .inl (cA 1, 40, .inr (.inl (((sp_rd0 K P (sp_sv K P seed P) sp_z00).1).2.1)))), (u.2.2.2.2.2.2.2.2.2.1, .inl (cA 0, 64, .inl ((sp_rd0 K P (sp_sv K P seed P) sp_z00).2.1))), (u.2.2.2.2.2.2.2.2.2.2.1, .inl (cA 1, 64, .inr (.inl ((sp_rd0 K P (sp_sv K P seed P) sp_z00).2.2.1)))), (u.2.2.2.2.2.2.2.2.2.2.2, .inl (cA 1, 72, .inr (.inl ((sp_rd0 K P (sp_sv K P seed P) sp_z00).2.2.2.1)))), (u.2.2.2.2.2.2.2.2.1, .inr (1, [.long 0, .long 0, .long 0]))] t) (va_A [(fo, .inr (5, [.ref wta, .ref soa, .ref rea, .int (nI cnt), .ref fb, .int fs, .ref ib])), (wta, .inl (cA 0, 12, .inl wt)), (soa, .inl (cA 2, 4, .inr (.inr (.inr (.inr fS))))), (rea, .inl (cA 3, 4, .inr (.inr (.inr (.inr fR)))))] sz)) 12 360 (va_A [(fo, .inr (5, [.ref wta, .ref soa, .ref rea, .int (nI cnt), .ref fb, .int fs, .ref ib])), (wta, .inl (cA 0, 12, .inl wt)), (soa, .inl (cA 2, 4, .inr (.inr (.inr (.inr fS))))), (rea, .inl (cA 3, 4, .inr (.inr (.inr (.inr fR)))))] sz) := by
  refine Met.ofW (cc := cX5_source) (maxL := 6) (ret := (some .int)) (by decide) rfl ?_
  intro p e s m args below meth c s₁ B hml hv
  obtain ⟨rfl, hsz, hP, hK, hN, hD0⟩ := hv
  have hx := B.exec
  have hb := B.bytes
  have hr := B.returns
  have hts0 := atoms_spec (ws := (kw_X5_source)) B.pre
  have hts : ∀ w ∈ TB, w.before _ s = true := fun w h => hts0 w (List.mem_cons_of_mem _ h)
  have hown : s.vm.findClass RX5 = some m.cls := findClass_of_methodNamed B.named
  have hlocks := B.notSynchronized
  subst hsz
  have hD := hD0.self (sz := s.heap.size)
  generalize hAe : va_A [(fo, .inr (5, [.ref wta, .ref soa, .ref rea, .int (nI cnt), .ref fb, .int fs, .ref ib])), (wta, .inl (cA 0, 12, .inl wt)), (soa, .inl (cA 2, 4, .inr (.inr (.inr (.inr fS))))), (rea, .inl (cA 3, 4, .inr (.inr (.inr (.inr fR)))))] s.heap.size = A at hD ⊢
  have hA : ∀ q : Nat, s.heap.size ≤ q → A q := fun q h => by rw [← hAe]; exact Or.inr h
  have hS : va_S A s.heap s.heap [] := va_S.rf
  have hk_0 := hts (.fieldLink RX5 9 "FountainRows" "weights" "[I") tb_227
  have hk_1 := hts (.fieldLink RX5 34 "FountainRows" "sourceCount" "I") tb_224
  have hk_2 := hts (.classLink RX5 22 RX3) tb_303
  have hk_3 := hts (.instantiable RX3 9) tb_304
  have hk_4 := hts (.initialized RX3) tb_45
  have hk_5 := hts (.fieldLink RX5 24 "FountainRows" "sources" "[LFountainRows$Source;") tb_225
  have hk_6 := hts (.fieldLink RX5 30 "FountainRows" "receivers" "[LFountainRows$Receiver;") tb_226
  have hk_7 := hts (.classLink RX5 28 RX2) tb_305
  have hk_8 := hts (.instantiable RX2 11) tb_306
  have hk_9 := hts (.initialized RX2) tb_144
  have hl := lv_entry ([.ref fo, .int (nI K), .int (nI P), .int (nI S), .int seed]) (n := 6) (Nat.le_of_ble_eq_true rfl)
  rw [lg_entry_eq]
  generalize (lg_sl ([.ref fo, .int (nI K), .int (nI P), .int (nI S), .int seed]) ++ List.replicate (6 - (lg_sl ([.ref fo, .int (nI K), .int (nI P), .int (nI S), .int seed])).length) Slot.unset).toArray = ls at hl ⊢
  have hl : lv_has ls 6 [(0, .ref fo), (1, .int (nI K)), (2, .int (nI P)), (3, .int (nI S)), (4, .int seed)] := hl
  refine lv_iload_n hx hb dX5_source_0 rfl (lv_at hl 1 rfl) ?_
  refine lv_iconst (v := 1) hx hb dX5_source_1 (by decide) ?_
  refine lv_icmp_lt (tgt := 32) hx hb dX5_source_2 (by decide) (fun c_1 => ?_) (fun c_1 => ?_)
  · have c_1 : (nI K) < 1 := c_1
    exact absurd c_1 ((nI_nlt (a := K) (b := 1) hK1 (by omega)))
  · have c_1 : ¬ ((nI K) < 1) := c_1
    refine lv_iload_n hx hb dX5_source_5 rfl (lv_at hl 1 rfl) ?_
    refine lv_bipush (v := 32) hx hb dX5_source_6 (by decide) ?_
    refine lv_icmp_gt (tgt := 32) hx hb dX5_source_8 (by decide) (fun c_2 => ?_) (fun c_2 => ?_)
    · have c_2 : 32 < (nI K) := c_2
      exact absurd c_2 ((nI_nlt (a := 32) (b := K) hK32 (by omega)))
    · have c_2 : ¬ (32 < (nI K)) := c_2
      refine lv_iload_n hx hb dX5_source_11 rfl (lv_at hl 2 rfl) ?_
      refine lv_if_lt (tgt := 32) hx hb dX5_source_12 (by decide) (fun c_3 => ?_) (fun c_3 => ?_)
      · have c_3 : (nI P) < 0 := c_3
        exact absurd c_3 ((nI_pos (by omega)))
      · have c_3 : ¬ ((nI P) < 0) := c_3
        refine lv_iload_n hx hb dX5_source_15 rfl (lv_at hl 2 rfl) ?_
        refine lv_bipush (v := 8) hx hb dX5_source_16 (by decide) ?_
        refine lv_icmp_gt (tgt := 32) hx hb dX5_source_18 (by decide) (fun c_4 => ?_) (fun c_4 => ?_)
        · have c_4 : 8 < (nI P) := c_4
          exact absurd c_4 ((nI_nlt (a := 8) (b := P) hP8 (by omega)))
        · have c_4 : ¬ (8 < (nI P)) := c_4
          refine lv_iload_n hx hb dX5_source_21 rfl (lv_at hl 3 rfl) ?_
          refine lv_iconst (v := 1) hx hb dX5_source_22 (by decide) ?_
          refine lv_icmp_lt (tgt := 32) hx hb dX5_source_23 (by decide) (fun c_5 => ?_) (fun c_5 => ?_)
          · have c_5 : (nI S) < 1 := c_5
            exact absurd c_5 ((nI_nlt (a := S) (b := 1) hS1 (by omega)))
          · have c_5 : ¬ ((nI S) < 1) := c_5
            refine lv_iload_n hx hb dX5_source_26 rfl (lv_at hl 3 rfl) ?_
            refine lv_bipush (v := 8) hx hb dX5_source_27 (by decide) ?_
            refine lv_icmp_le (tgt := 35) hx hb dX5_source_29 (by decide) (fun c_6 => ?_) (fun c_6 => ?_)
            · have c_6 : (nI S) ≤ 8 := c_6
              refine lv_aload_n hx hb dX5_source_35 rfl (lv_at hl 0 rfl) ?_
              refine va_get (D := (dC, dI)) (ci := 5) (v := .ref wta) (C := RX5) (T := TX5) (N := 7) hx hb hts inX5 hown hK hP 0 rfl rfl 0 (by decide) hk_0 (fun _ h9 => h9) rfl dX5_source_36 ?_
              have hPc := hP.sub (ws' := [(wta, .inl (cA 0, 12, .inl wt))]) [1] rfl
              refine kq_csi (va_runS (As := [.ref wta]) (rest := []) ⟨hx, hb, hml, hown, hts⟩ (c_FountainRows_totalOf l dC dI cA wta 12 wt (by decide)) (va_cwS 1 hts (kg_S tb_296 tb_206 tb_54 tb_205) rfl rfl rfl (by decide +kernel) ⟨Nat.le_of_ble_eq_true rfl, Nat.le_of_ble_eq_true rfl⟩) (kps_ro hK hN hPc) rfl rfl hl.1 rfl (lv_room (Nat.le_of_ble_eq_true rfl)) dX5_source_39 ⟨Nat.le_of_ble_eq_true rfl, Nat.le_of_ble_eq_true rfl⟩) (fun r_7 hr_7 => ?_)
              subst hr_7
              refine lv_if_ne (tgt := 48) hx hb dX5_source_42 (by decide) (fun c_8 => ?_) (fun c_8 => ?_)
              · have c_8 : ¬ ((bx_sum wt 12) = 0) := c_8
                refine lv_aload_n hx hb dX5_source_48 rfl (lv_at hl 0 rfl) ?_
                refine va_get (D := (dC, dI)) (ci := 5) (v := .int (nI cnt)) (C := RX5) (T := TX5) (N := 7) hx hb hts inX5 hown hK hP 0 rfl rfl 3 (by decide) hk_1 (fun _ h9 => h9) rfl dX5_source_49 ?_
                refine lv_iconst (v := 4) hx hb dX5_source_52 (by decide) ?_
                refine lv_icmp_lt (tgt := 59) hx hb dX5_source_53 (by decide) (fun c_9 => ?_) (fun c_9 => ?_)
                · have c_9 : (nI cnt) < 4 := c_9
                  refine va_new (D := (dC, dI)) (ci := 3) (fs := [.int 0, .int 0, .int 0, .int 0, .int 0, .null, .int 0, .null, .null]) (C := RX3) (T := TX3) (N := 9) hx hb hts inX3 tyX3 tyX3_ok hown hk_2 hk_3 hk_4 hK hP hD hS hA rfl (fun j hj => by rcases (show j = 0 ∨ j = 1 ∨ j = 2 ∨ j = 3 ∨ j = 4 ∨ j = 5 ∨ j = 6 ∨ j = 7 ∨ j = 8 by omega) with rfl | rfl | rfl | rfl | rfl | rfl | rfl | rfl | rfl <;> rfl) (Nat.le_of_ble_eq_true rfl) (Nat.le_of_ble_eq_true rfl) dX5_source_59 (fun q_10 H hP hD hS => ?_)
                  have hP : va_P (dC, dI) vwCl [(fo, .inr (5, [.ref wta, .ref soa, .ref rea, .int (nI cnt), .ref fb, .int fs, .ref ib])), (wta, .inl (cA 0, 12, .inl wt)), (soa, .inl (cA 2, 4, .inr (.inr (.inr (.inr fS))))), (rea, .inl (cA 3, 4, .inr (.inr (.inr (.inr fR))))), (q_10, .inr (3, [.int 0, .int 0, .int 0, .int 0, .int 0, .null, .int 0, .null, .null]))] H := hP
                  have hD : va_D A [(fo, .inr (5, [.ref wta, .ref soa, .ref rea, .int (nI cnt), .ref fb, .int fs, .ref ib])), (wta, .inl (cA 0, 12, .inl wt)), (soa, .inl (cA 2, 4, .inr (.inr (.inr (.inr fS))))), (rea, .inl (cA 3, 4, .inr (.inr (.inr (.inr fR))))), (q_10, .inr (3, [.int 0, .int 0, .int 0, .int 0, .int 0, .null, .int 0, .null, .null]))] := hD
                  refine lv_dup hx hb dX5_source_62 rfl ?_
                  refine lv_iload_n hx hb dX5_source_63 rfl (lv_at hl 1 rfl) ?_
                  refine lv_iload_n hx hb dX5_source_64 rfl (lv_at hl 2 rfl) ?_
                  refine lv_iload_n hx hb dX5_source_65 rfl (lv_at hl 3 rfl) ?_
                  refine lv_iload hx hb dX5_source_66 (lv_at hl 4 rfl) ?_
                  refine lv_aload_n hx hb dX5_source_68 rfl (lv_at hl 0 rfl) ?_
                  refine va_get (D := (dC, dI)) (ci := 5) (v := .ref wta) (C := RX5) (T := TX5) (N := 7) hx hb hts inX5 hown hK hP 0 rfl rfl 0 (by decide) hk_0 (fun _ h9 => h9) rfl dX5_source_69 ?_
                  have hPc := hP.sub (ws' := [(q_10, .inr (3, [.int 0, .int 0, .int 0, .int 0, .int 0, .null, .int 0, .null, .null])), (wta, .inl (cA 0, 12, .inl wt))]) [4, 1] rfl
                  have hDc := hD.sub (ws' := [(q_10, .inr (3, [.int 0, .int 0, .int 0, .int 0, .int 0, .null, .int 0, .null, .null])), (wta, .inl (cA 0, 12, .inl wt))]) [4, 1] (by decide) rfl
                  have hFc := va_free (wc := [(q_10, .inr (3, [.int 0, .int 0, .int 0, .int 0, .int 0, .null, .int 0, .null, .null])), (wta, .inl (cA 0, 12, .inl wt))]) hD hS hA [4, 1] rfl
                  refine va_callv (va_runI (As := [.int (nI K), .int (nI P), .int (nI S), .int seed, .ref wta]) (rest := [.ref q_10]) ⟨hx, hb, hml, hown, hts⟩ (c_Source_init l dC dI cA H.size q_10 wta K P S seed wt (by first | assumption | omega) (by first | assumption | omega)) (cwI 5 hts (kg_I tb_297) rfl rfl rfl (hts _ tb_45) (hts _ tb_298) (hts _ tb_299) rfl (by decide +kernel) ⟨Nat.le_of_ble_eq_true rfl, Nat.le_of_ble_eq_true rfl⟩) (kps_rw hK hN hPc hDc) rfl rfl hl.1 rfl (lv_room (Nat.le_of_ble_eq_true rfl)) dX5_source_72 ⟨Nat.le_of_ble_eq_true rfl, Nat.le_of_ble_eq_true rfl⟩) hS (fun q _ h => hFc q h) hFc (fun u9 t9 H1 locs ht9 hvm9 hr_11 hB hz1 hk1 hS => ?_)
                  obtain ⟨wa_12, ua_13, sa_14⟩ := u9
                  obtain ⟨hP1, hD1⟩ := hB
                  rw [ht9] at hP1
                  obtain ⟨hP, hD⟩ := va_join (wr := [(fo, .inr (5, [.ref wta, .ref soa, .ref rea, .int (nI cnt), .ref fb, .int fs, .ref ib])), (soa, .inl (cA 2, 4, .inr (.inr (.inr (.inr fS))))), (rea, .inl (cA 3, 4, .inr (.inr (.inr (.inr fR)))))]) (w1 := [(q_10, .inr (3, [.int (nI K), .int (nI P), .int (nI (K + P)), .int (nI S), .int seed, .ref wa_12, .int (bx_sum (va_cpy wt (fun _ => 0) 0 0 12) 12), .ref ua_13, .ref sa_14])), (wa_12, .inl (cA 0, 12, .inl (va_cpy wt (fun _ => 0) 0 0 12))), (ua_13, .inl (cA 1, 8, .inr (.inl (sp_sv K P seed P)))), (sa_14, .inl (cA 1, 32, .inr (.inl (fun _ => 0)))), (wta, .inl (cA 0, 12, .inl wt))]) hP hD [4, 1] [0, 2, 3] rfl rfl (by decide) (by decide) hk1 hFc hP1 hD1
                  generalize H1 = H at hP hS ⊢
                  have hP : va_P (dC, dI) vwCl [(fo, .inr (5, [.ref wta, .ref soa, .ref rea, .int (nI cnt), .ref fb, .int fs, .ref ib])), (soa, .inl (cA 2, 4, .inr (.inr (.inr (.inr fS))))), (rea, .inl (cA 3, 4, .inr (.inr (.inr (.inr fR))))), (q_10, .inr (3, [.int (nI K), .int (nI P), .int (nI (K + P)), .int (nI S), .int seed, .ref wa_12, .int (bx_sum (va_cpy wt (fun _ => 0) 0 0 12) 12), .ref ua_13, .ref sa_14])), (wa_12, .inl (cA 0, 12, .inl (va_cpy wt (fun _ => 0) 0 0 12))), (ua_13, .inl (cA 1, 8, .inr (.inl (sp_sv K P seed P)))), (sa_14, .inl (cA 1, 32, .inr (.inl (fun _ => 0)))), (wta, .inl (cA 0, 12, .inl wt))] H := hP
                  have hD : va_D A [(fo, .inr (5, [.ref wta, .ref soa, .ref rea, .int (nI cnt), .ref fb, .int fs, .ref ib])), (soa, .inl (cA 2, 4, .inr (.inr (.inr (.inr fS))))), (rea, .inl (cA 3, 4, .inr (.inr (.inr (.inr fR))))), (q_10, .inr (3, [.int (nI K), .int (nI P), .int (nI (K + P)), .int (nI S), .int seed, .ref wa_12, .int (bx_sum (va_cpy wt (fun _ => 0) 0 0 12) 12), .ref ua_13, .ref sa_14])), (wa_12, .inl (cA 0, 12, .inl (va_cpy wt (fun _ => 0) 0 0 12))), (ua_13, .inl (cA 1, 8, .inr (.inl (sp_sv K P seed P)))), (sa_14, .inl (cA 1, 32, .inr (.inl (fun _ => 0)))), (wta, .inl (cA 0, 12, .inl wt))] := hD
                  refine W.widen (k := 4) (n := 61) (by omega) (by omega) ?_
                  refine lv_astore (lv' := [(5, .ref q_10), (0, .ref fo), (1, .int (nI K)), (2, .int (nI P)), (3, .int (nI S)), (4, .int seed)]) hx hb dX5_source_75 hl (by decide) rfl (fun ls hl => ?_)
                  refine lv_aload_n hx hb dX5_source_77 rfl (lv_at hl 1 rfl) ?_
                  refine va_get (D := (dC, dI)) (ci := 5) (v := .ref soa) (C := RX5) (T := TX5) (N := 7) hx hb hts inX5 hown hK hP 0 rfl rfl 1 (by decide) hk_5 (fun _ h9 => h9) rfl dX5_source_78 ?_
                  refine lv_aload_n hx hb dX5_source_81 rfl (lv_at hl 1 rfl) ?_
                  refine va_get (D := (dC, dI)) (ci := 5) (v := .int (nI cnt)) (C := RX5) (T := TX5) (N := 7) hx hb hts inX5 hown hK hP 0 rfl rfl 3 (by decide) hk_1 (fun _ h9 => h9) rfl dX5_source_82 ?_
                  refine lv_aload hx hb dX5_source_85 (lv_at hl 0 rfl) ?_
                  refine va_astq (D := (dC, dI)) hx hb hK hP hD hS 1 2 3 3 rfl rfl rfl rfl (vp_in_nI hcnt (by omega)) dX5_source_87 (fun H locs hP hD hS => ?_)
                  rw [nI_clamp (by omega : cnt < 2 ^ 31)] at hP hD
                  have hP : va_P (dC, dI) vwCl [(fo, .inr (5, [.ref wta, .ref soa, .ref rea, .int (nI cnt), .ref fb, .int fs, .ref ib])), (soa, .inl (cA 2, 4, .inr (.inr (.inr (.inr (va_up fS cnt (some q_10))))))), (rea, .inl (cA 3, 4, .inr (.inr (.inr (.inr fR))))), (q_10, .inr (3, [.int (nI K), .int (nI P), .int (nI (K + P)), .int (nI S), .int seed, .ref wa_12, .int (bx_sum (va_cpy wt (fun _ => 0) 0 0 12) 12), .ref ua_13, .ref sa_14])), (wa_12, .inl (cA 0, 12, .inl (va_cpy wt (fun _ => 0) 0 0 12))), (ua_13, .inl (cA 1, 8, .inr (.inl (sp_sv K P seed P)))), (sa_14, .inl (cA 1, 32, .inr (.inl (fun _ => 0)))), (wta, .inl (cA 0, 12, .inl wt))] H := hP
                  have hD : va_D A [(fo, .inr (5, [.ref wta, .ref soa, .ref rea, .int (nI cnt), .ref fb, .int fs, .ref ib])), (soa, .inl (cA 2, 4, .inr (.inr (.inr (.inr (va_up fS cnt (some q_10))))))), (rea, .inl (cA 3, 4, .inr (.inr (.inr (.inr fR))))), (q_10, .inr (3, [.int (nI K), .int (nI P), .int (nI (K + P)), .int (nI S), .int seed, .ref wa_12, .int (bx_sum (va_cpy wt (fun _ => 0) 0 0 12) 12), .ref ua_13, .ref sa_14])), (wa_12, .inl (cA 0, 12, .inl (va_cpy wt (fun _ => 0) 0 0 12))), (ua_13, .inl (cA 1, 8, .inr (.inl (sp_sv K P seed P)))), (sa_14, .inl (cA 1, 32, .inr (.inl (fun _ => 0)))), (wta, .inl (cA 0, 12, .inl wt))] := hD
                  refine lv_aload_n hx hb dX5_source_88 rfl (lv_at hl 1 rfl) ?_
                  refine va_get (D := (dC, dI)) (ci := 5) (v := .ref rea) (C := RX5) (T := TX5) (N := 7) hx hb hts inX5 hown hK hP 0 rfl rfl 2 (by decide) hk_6 (fun _ h9 => h9) rfl dX5_source_89 ?_
                  refine lv_aload_n hx hb dX5_source_92 rfl (lv_at hl 1 rfl) ?_
                  refine va_get (D := (dC, dI)) (ci := 5) (v := .int (nI cnt)) (C := RX5) (T := TX5) (N := 7) hx hb hts inX5 hown hK hP 0 rfl rfl 3 (by decide) hk_1 (fun _ h9 => h9) rfl dX5_source_93 ?_
                  refine va_new (D := (dC, dI)) (ci := 2) (fs := [.null, .null, .null, .int 0, .null, .null, .null, .int 0, .int 0, .int 0, .int 0]) (C := RX2) (T := TX2) (N := 11) hx hb hts inX2 tyX2 tyX2_ok hown hk_7 hk_8 hk_9 hK hP hD hS hA rfl (fun j hj => by rcases (show j = 0 ∨ j = 1 ∨ j = 2 ∨ j = 3 ∨ j = 4 ∨ j = 5 ∨ j = 6 ∨ j = 7 ∨ j = 8 ∨ j = 9 ∨ j = 10 by omega) with rfl | rfl | rfl | rfl | rfl | rfl | rfl | rfl | rfl | rfl | rfl <;> rfl) (Nat.le_of_ble_eq_true rfl) (Nat.le_of_ble_eq_true rfl) dX5_source_96 (fun q_15 H hP hD hS => ?_)
                  have hP : va_P (dC, dI) vwCl [(fo, .inr (5, [.ref wta, .ref soa, .ref rea, .int (nI cnt), .ref fb, .int fs, .ref ib])), (soa, .inl (cA 2, 4, .inr (.inr (.inr (.inr (va_up fS cnt (some q_10))))))), (rea, .inl (cA 3, 4, .inr (.inr (.inr (.inr fR))))), (q_10, .inr (3, [.int (nI K), .int (nI P), .int (nI (K + P)), .int (nI S), .int seed, .ref wa_12, .int (bx_sum (va_cpy wt (fun _ => 0) 0 0 12) 12), .ref ua_13, .ref sa_14])), (wa_12, .inl (cA 0, 12, .inl (va_cpy wt (fun _ => 0) 0 0 12))), (ua_13, .inl (cA 1, 8, .inr (.inl (sp_sv K P seed P)))), (sa_14, .inl (cA 1, 32, .inr (.inl (fun _ => 0)))), (wta, .inl (cA 0, 12, .inl wt)), (q_15, .inr (2, [.null, .null, .null, .int 0, .null, .null, .null, .int 0, .int 0, .int 0, .int 0]))] H := hP
                  have hD : va_D A [(fo, .inr (5, [.ref wta, .ref soa, .ref rea, .int (nI cnt), .ref fb, .int fs, .ref ib])), (soa, .inl (cA 2, 4, .inr (.inr (.inr (.inr (va_up fS cnt (some q_10))))))), (rea, .inl (cA 3, 4, .inr (.inr (.inr (.inr fR))))), (q_10, .inr (3, [.int (nI K), .int (nI P), .int (nI (K + P)), .int (nI S), .int seed, .ref wa_12, .int (bx_sum (va_cpy wt (fun _ => 0) 0 0 12) 12), .ref ua_13, .ref sa_14])), (wa_12, .inl (cA 0, 12, .inl (va_cpy wt (fun _ => 0) 0 0 12))), (ua_13, .inl (cA 1, 8, .inr (.inl (sp_sv K P seed P)))), (sa_14, .inl (cA 1, 32, .inr (.inl (fun _ => 0)))), (wta, .inl (cA 0, 12, .inl wt)), (q_15, .inr (2, [.null, .null, .null, .int 0, .null, .null, .null, .int 0, .int 0, .int 0, .int 0]))] := hD
                  refine lv_dup hx hb dX5_source_99 rfl ?_
                  refine lv_aload hx hb dX5_source_100 (lv_at hl 0 rfl) ?_
                  have hPc := hP.sub (ws' := [(q_15, .inr (2, [.null, .null, .null, .int 0, .null, .null, .null, .int 0, .int 0, .int 0, .int 0])), (q_10, .inr (3, [.int (nI K), .int (nI P), .int (nI (K + P)), .int (nI S), .int seed, .ref wa_12, .int (bx_sum (va_cpy wt (fun _ => 0) 0 0 12) 12), .ref ua_13, .ref sa_14])), (ua_13, .inl (cA 1, 8, .inr (.inl (sp_sv K P seed P))))]) [8, 3, 5] rfl
                  have hDc := hD.sub (ws' := [(q_15, .inr (2, [.null, .null, .null, .int 0, .null, .null, .null, .int 0, .int 0, .int 0, .int 0])), (q_10, .inr (3, [.int (nI K), .int (nI P), .int (nI (K + P)), .int (nI S), .int seed, .ref wa_12, .int (bx_sum (va_cpy wt (fun _ => 0) 0 0 12) 12), .ref ua_13, .ref sa_14])), (ua_13, .inl (cA 1, 8, .inr (.inl (sp_sv K P seed P))))]) [8, 3, 5] (by decide) rfl
                  have hFc := va_free (wc := [(q_15, .inr (2, [.null, .null, .null, .int 0, .null, .null, .null, .int 0, .int 0, .int 0, .int 0])), (q_10, .inr (3, [.int (nI K), .int (nI P), .int (nI (K + P)), .int (nI S), .int seed, .ref wa_12, .int (bx_sum (va_cpy wt (fun _ => 0) 0 0 12) 12), .ref ua_13, .ref sa_14])), (ua_13, .inl (cA 1, 8, .inr (.inl (sp_sv K P seed P))))]) hD hS hA [8, 3, 5] rfl
                  refine va_callv (va_runI (As := [.ref q_10]) (rest := [.ref q_15, .int (nI cnt), .ref rea]) ⟨hx, hb, hml, hown, hts⟩ (c_Receiver_init l dC dI cA H.size q_15 q_10 wa_12 ua_13 sa_14 K P S seed (bx_sum (va_cpy wt (fun _ => 0) 0 0 12) 12) (sp_sv K P seed P) (by first | assumption | omega) (by first | assumption | omega)) (cwI 1 hts (kg_I tb_300) rfl rfl rfl (hts _ tb_144) (hts _ tb_301) (hts _ tb_302) rfl (by decide +kernel) ⟨Nat.le_of_ble_eq_true rfl, Nat.le_of_ble_eq_true rfl⟩) (kps_rw hK hN hPc hDc) rfl rfl hl.1 rfl (lv_room (Nat.le_of_ble_eq_true rfl)) dX5_source_102 ⟨Nat.le_of_ble_eq_true rfl, Nat.le_of_ble_eq_true rfl⟩) hS (fun q _ h => hFc q h) hFc (fun u9 t9 H1 locs ht9 hvm9 hr_16 hB hz1 hk1 hS => ?_)
                  obtain ⟨sp_17, sra_18, sva_19, pe_20, na_21, oa_22, ra_23⟩ := u9
                  obtain ⟨hP1, hD1⟩ := hB
                  rw [ht9] at hP1
                  obtain ⟨hP, hD⟩ := va_join (wr := [(fo, .inr (5, [.ref wta, .ref soa, .ref rea, .int (nI cnt), .ref fb, .int fs, .ref ib])), (soa, .inl (cA 2, 4, .inr (.inr (.inr (.inr (va_up fS cnt (some q_10))))))), (rea, .inl (cA 3, 4, .inr (.inr (.inr (.inr fR))))), (wa_12, .inl (cA 0, 12, .inl (va_cpy wt (fun _ => 0) 0 0 12))), (sa_14, .inl (cA 1, 32, .inr (.inl (fun _ => 0)))), (wta, .inl (cA 0, 12, .inl wt))]) (w1 := [(q_15, .inr (2, [.ref q_10, .ref sp_17, .ref pe_20, .int ((sp_rd0 K P (sp_sv K P seed P) sp_z00).2.2.2.2.2), .ref na_21, .ref oa_22, .ref ra_23, .int (nI ((sp_rd0 K P (sp_sv K P seed P) sp_z00).2.2.2.2.1)), .int 0, .int 0, .int 0])), (sp_17, .inr (4, [.ref sra_18, .ref sva_19, .int (nI (((sp_rd0 K P (sp_sv K P seed P) sp_z00).1).2.2.1)), .long (((sp_rd0 K P (sp_sv K P seed P) sp_z00).1).2.2.2.1), .long (((sp_rd0 K P (sp_sv K P seed P) sp_z00).1).2.2.2.2)])), (sra_18, .inl (cA 1, 40, .inr (.inl (((sp_rd0 K P (sp_sv K P seed P) sp_z00).1).1)))), (sva_19, .inl (cA 1, 40, .inr (.inl (((sp_rd0 K P (sp_sv K P seed P) sp_z00).1).2.1)))), (na_21, .inl (cA 0, 64, .inl ((sp_rd0 K P (sp_sv K P seed P) sp_z00).2.1))), (oa_22, .inl (cA 1, 64, .inr (.inl ((sp_rd0 K P (sp_sv K P seed P) sp_z00).2.2.1)))), (ra_23, .inl (cA 1, 72, .inr (.inl ((sp_rd0 K P (sp_sv K P seed P) sp_z00).2.2.2.1)))), (pe_20, .inr (1, [.long 0, .long 0, .long 0])), (q_10, .inr (3, [.int (nI K), .int (nI P), .int (nI (K + P)), .int (nI S), .int seed, .ref wa_12, .int (bx_sum (va_cpy wt (fun _ => 0) 0 0 12) 12), .ref ua_13, .ref sa_14])), (ua_13, .inl (cA 1, 8, .inr (.inl (sp_sv K P seed P))))]) hP hD [8, 3, 5] [0, 1, 2, 4, 6, 7] rfl rfl (by decide) (by decide) hk1 hFc hP1 hD1
                  generalize H1 = H at hP hS ⊢
                  have hP : va_P (dC, dI) vwCl [(fo, .inr (5, [.ref wta, .ref soa, .ref rea, .int (nI cnt), .ref fb, .int fs, .ref ib])), (soa, .inl (cA 2, 4, .inr (.inr (.inr (.inr (va_up fS cnt (some q_10))))))), (rea, .inl (cA 3, 4, .inr (.inr (.inr (.inr fR))))), (wa_12, .inl (cA 0, 12, .inl (va_cpy wt (fun _ => 0) 0 0 12))), (sa_14, .inl (cA 1, 32, .inr (.inl (fun _ => 0)))), (wta, .inl (cA 0, 12, .inl wt)), (q_15, .inr (2, [.ref q_10, .ref sp_17, .ref pe_20, .int ((sp_rd0 K P (sp_sv K P seed P) sp_z00).2.2.2.2.2), .ref na_21, .ref oa_22, .ref ra_23, .int (nI ((sp_rd0 K P (sp_sv K P seed P) sp_z00).2.2.2.2.1)), .int 0, .int 0, .int 0])), (sp_17, .inr (4, [.ref sra_18, .ref sva_19, .int (nI (((sp_rd0 K P (sp_sv K P seed P) sp_z00).1).2.2.1)), .long (((sp_rd0 K P (sp_sv K P seed P) sp_z00).1).2.2.2.1), .long (((sp_rd0 K P (sp_sv K P seed P) sp_z00).1).2.2.2.2)])), (sra_18, .inl (cA 1, 40, .inr (.inl (((sp_rd0 K P (sp_sv K P seed P) sp_z00).1).1)))), (sva_19, .inl (cA 1, 40, .inr (.inl (((sp_rd0 K P (sp_sv K P seed P) sp_z00).1).2.1)))), (na_21, .inl (cA 0, 64, .inl ((sp_rd0 K P (sp_sv K P seed P) sp_z00).2.1))), (oa_22, .inl (cA 1, 64, .inr (.inl ((sp_rd0 K P (sp_sv K P seed P) sp_z00).2.2.1)))), (ra_23, .inl (cA 1, 72, .inr (.inl ((sp_rd0 K P (sp_sv K P seed P) sp_z00).2.2.2.1)))), (pe_20, .inr (1, [.long 0, .long 0, .long 0])), (q_10, .inr (3, [.int (nI K), .int (nI P), .int (nI (K + P)), .int (nI S), .int seed, .ref wa_12, .int (bx_sum (va_cpy wt (fun _ => 0) 0 0 12) 12), .ref ua_13, .ref sa_14])), (ua_13, .inl (cA 1, 8, .inr (.inl (sp_sv K P seed P))))] H := hP
                  have hD : va_D A [(fo, .inr (5, [.ref wta, .ref soa, .ref rea, .int (nI cnt), .ref fb, .int fs, .ref ib])), (soa, .inl (cA 2, 4, .inr (.inr (.inr (.inr (va_up fS cnt (some q_10))))))), (rea, .inl (cA 3, 4, .inr (.inr (.inr (.inr fR))))), (wa_12, .inl (cA 0, 12, .inl (va_cpy wt (fun _ => 0) 0 0 12))), (sa_14, .inl (cA 1, 32, .inr (.inl (fun _ => 0)))), (wta, .inl (cA 0, 12, .inl wt)), (q_15, .inr (2, [.ref q_10, .ref sp_17, .ref pe_20, .int ((sp_rd0 K P (sp_sv K P seed P) sp_z00).2.2.2.2.2), .ref na_21, .ref oa_22, .ref ra_23, .int (nI ((sp_rd0 K P (sp_sv K P seed P) sp_z00).2.2.2.2.1)), .int 0, .int 0, .int 0])), (sp_17, .inr (4, [.ref sra_18, .ref sva_19, .int (nI (((sp_rd0 K P (sp_sv K P seed P) sp_z00).1).2.2.1)), .long (((sp_rd0 K P (sp_sv K P seed P) sp_z00).1).2.2.2.1), .long (((sp_rd0 K P (sp_sv K P seed P) sp_z00).1).2.2.2.2)])), (sra_18, .inl (cA 1, 40, .inr (.inl (((sp_rd0 K P (sp_sv K P seed P) sp_z00).1).1)))), (sva_19, .inl (cA 1, 40, .inr (.inl (((sp_rd0 K P (sp_sv K P seed P) sp_z00).1).2.1)))), (na_21, .inl (cA 0, 64, .inl ((sp_rd0 K P (sp_sv K P seed P) sp_z00).2.1))), (oa_22, .inl (cA 1, 64, .inr (.inl ((sp_rd0 K P (sp_sv K P seed P) sp_z00).2.2.1)))), (ra_23, .inl (cA 1, 72, .inr (.inl ((sp_rd0 K P (sp_sv K P seed P) sp_z00).2.2.2.1)))), (pe_20, .inr (1, [.long 0, .long 0, .long 0])), (q_10, .inr (3, [.int (nI K), .int (nI P), .int (nI (K + P)), .int (nI S), .int seed, .ref wa_12, .int (bx_sum (va_cpy wt (fun _ => 0) 0 0 12) 12), .ref ua_13, .ref sa_14])), (ua_13, .inl (cA 1, 8, .inr (.inl (sp_sv K P seed P))))] := hD
                  refine W.widen (k := 12) (n := 360) (by omega) (by omega) ?_
                  refine va_astq (D := (dC, dI)) hx hb hK hP hD hS 2 3 6 2 rfl rfl rfl rfl (vp_in_nI hcnt (by omega)) dX5_source_105 (fun H locs hP hD hS => ?_)
                  rw [nI_clamp (by omega : cnt < 2 ^ 31)] at hP hD
                  have hP : va_P (dC, dI) vwCl [(fo, .inr (5, [.ref wta, .ref soa, .ref rea, .int (nI cnt), .ref fb, .int fs, .ref ib])), (soa, .inl (cA 2, 4, .inr (.inr (.inr (.inr (va_up fS cnt (some q_10))))))), (rea, .inl (cA 3, 4, .inr (.inr (.inr (.inr (va_up fR cnt (some q_15))))))), (wa_12, .inl (cA 0, 12, .inl (va_cpy wt (fun _ => 0) 0 0 12))), (sa_14, .inl (cA 1, 32, .inr (.inl (fun _ => 0)))), (wta, .inl (cA 0, 12, .inl wt)), (q_15, .inr (2, [.ref q_10, .ref sp_17, .ref pe_20, .int ((sp_rd0 K P (sp_sv K P seed P) sp_z00).2.2.2.2.2), .ref na_21, .ref oa_22, .ref ra_23, .int (nI ((sp_rd0 K P (sp_sv K P seed P) sp_z00).2.2.2.2.1)), .int 0, .int 0, .int 0])), (sp_17, .inr (4, [.ref sra_18, .ref sva_19, .int (nI (((sp_rd0 K P (sp_sv K P seed P) sp_z00).1).2.2.1)), .long (((sp_rd0 K P (sp_sv K P seed P) sp_z00).1).2.2.2.1), .long (((sp_rd0 K P (sp_sv K P seed P) sp_z00).1).2.2.2.2)])), (sra_18, .inl (cA 1, 40, .inr (.inl (((sp_rd0 K P (sp_sv K P seed P) sp_z00).1).1)))), (sva_19, .inl (cA 1, 40, .inr (.inl (((sp_rd0 K P (sp_sv K P seed P) sp_z00).1).2.1)))), (na_21, .inl (cA 0, 64, .inl ((sp_rd0 K P (sp_sv K P seed P) sp_z00).2.1))), (oa_22, .inl (cA 1, 64, .inr (.inl ((sp_rd0 K P (sp_sv K P seed P) sp_z00).2.2.1)))), (ra_23, .inl (cA 1, 72, .inr (.inl ((sp_rd0 K P (sp_sv K P seed P) sp_z00).2.2.2.1)))), (pe_20, .inr (1, [.long 0, .long 0, .long 0])), (q_10, .inr (3, [.int (nI K), .int (nI P), .int (nI (K + P)), .int (nI S), .int seed, .ref wa_12, .int (bx_sum (va_cpy wt (fun _ => 0) 0 0 12) 12), .ref ua_13, .ref sa_14])), (ua_13, .inl (cA 1, 8, .inr (.inl (sp_sv K P seed P))))] H := hP
                  have hD : va_D A [(fo, .inr (5, [.ref wta, .ref soa, .ref rea, .int (nI cnt), .ref fb, .int fs, .ref ib])), (soa, .inl (cA 2, 4, .inr (.inr (.inr (.inr (va_up fS cnt (some q_10))))))), (rea, .inl (cA 3, 4, .inr (.inr (.inr (.inr (va_up fR cnt (some q_15))))))), (wa_12, .inl (cA 0, 12, .inl (va_cpy wt (fun _ => 0) 0 0 12))), (sa_14, .inl (cA 1, 32, .inr (.inl (fun _ => 0)))), (wta, .inl (cA 0, 12, .inl wt)), (q_15, .inr (2, [.ref q_10, .ref sp_17, .ref pe_20, .int ((sp_rd0 K P (sp_sv K P seed P) sp_z00).2.2.2.2.2), .ref na_21, .ref oa_22, .ref ra_23, .int (nI ((sp_rd0 K P (sp_sv K P seed P) sp_z00).2.2.2.2.1)), .int 0, .int 0, .int 0])), (sp_17, .inr (4, [.ref sra_18, .ref sva_19, .int (nI (((sp_rd0 K P (sp_sv K P seed P) sp_z00).1).2.2.1)), .long (((sp_rd0 K P (sp_sv K P seed P) sp_z00).1).2.2.2.1), .long (((sp_rd0 K P (sp_sv K P seed P) sp_z00).1).2.2.2.2)])), (sra_18, .inl (cA 1, 40, .inr (.inl (((sp_rd0 K P (sp_sv K P seed P) sp_z00).1).1)))), (sva_19, .inl (cA 1, 40, .inr (.inl (((sp_rd0 K P (sp_sv K P seed P) sp_z00).1).2.1)))), (na_21, .inl (cA 0, 64, .inl ((sp_rd0 K P (sp_sv K P seed P) sp_z00).2.1))), (oa_22, .inl (cA 1, 64, .inr (.inl ((sp_rd0 K P (sp_sv K P seed P) sp_z00).2.2.1)))), (ra_23, .inl (cA 1, 72, .inr (.inl ((sp_rd0 K P (sp_sv K P seed P) sp_z00).2.2.2.1)))), (pe_20, .inr (1, [.long 0, .long 0, .long 0])), (q_10, .inr (3, [.int (nI K), .int (nI P), .int (nI (K + P)), .int (nI S), .int seed, .ref wa_12, .int (bx_sum (va_cpy wt (fun _ => 0) 0 0 12) 12), .ref ua_13, .ref sa_14])), (ua_13, .inl (cA 1, 8, .inr (.inl (sp_sv K P seed P))))] := hD
                  refine lv_aload_n hx hb dX5_source_106 rfl (lv_at hl 1 rfl) ?_
                  refine lv_dup hx hb dX5_source_107 rfl ?_
                  refine va_get (D := (dC, dI)) (ci := 5) (v := .int (nI cnt)) (C := RX5) (T := TX5) (N := 7) hx hb hts inX5 hown hK hP 0 rfl rfl 3 (by decide) hk_1 (fun _ h9 => h9) rfl dX5_source_108 ?_
                  refine lv_iconst (v := 1) hx hb dX5_source_111 (by decide) ?_
                  refine lv_iadd hx hb dX5_source_112 ?_
                  refine kt_i (y := nI (cnt + 1)) (nI_add cnt 1) ?_
                  refine va_put (D := (dC, dI)) (ci := 5) (v := .int (nI (cnt + 1))) (ty := .int) (C := RX5) (T := TX5) (N := 7) hx hb hts inX5 tyX5 tyX5_ok nmX5 hown hK hP hD hS 0 rfl rfl 3 (by decide) hk_1 (fun _ h9 => h9) rfl (by decide +kernel) rfl rfl (Nat.le_of_ble_eq_true rfl) dX5_source_113 (fun H locs hP hD hS => ?_)
                  have hP : va_P (dC, dI) vwCl [(fo, .inr (5, [.ref wta, .ref soa, .ref rea, .int (nI (cnt + 1)), .ref fb, .int fs, .ref ib])), (soa, .inl (cA 2, 4, .inr (.inr (.inr (.inr (va_up fS cnt (some q_10))))))), (rea, .inl (cA 3, 4, .inr (.inr (.inr (.inr (va_up fR cnt (some q_15))))))), (wa_12, .inl (cA 0, 12, .inl (va_cpy wt (fun _ => 0) 0 0 12))), (sa_14, .inl (cA 1, 32, .inr (.inl (fun _ => 0)))), (wta, .inl (cA 0, 12, .inl wt)), (q_15, .inr (2, [.ref q_10, .ref sp_17, .ref pe_20, .int ((sp_rd0 K P (sp_sv K P seed P) sp_z00).2.2.2.2.2), .ref na_21, .ref oa_22, .ref ra_23, .int (nI ((sp_rd0 K P (sp_sv K P seed P) sp_z00).2.2.2.2.1)), .int 0, .int 0, .int 0])), (sp_17, .inr (4, [.ref sra_18, .ref sva_19, .int (nI (((sp_rd0 K P (sp_sv K P seed P) sp_z00).1).2.2.1)), .long (((sp_rd0 K P (sp_sv K P seed P) sp_z00).1).2.2.2.1), .long (((sp_rd0 K P (sp_sv K P seed P) sp_z00).1).2.2.2.2)])), (sra_18, .inl (cA 1, 40, .inr (.inl (((sp_rd0 K P (sp_sv K P seed P) sp_z00).1).1)))), (sva_19, .inl (cA 1, 40, .inr (.inl (((sp_rd0 K P (sp_sv K P seed P) sp_z00).1).2.1)))), (na_21, .inl (cA 0, 64, .inl ((sp_rd0 K P (sp_sv K P seed P) sp_z00).2.1))), (oa_22, .inl (cA 1, 64, .inr (.inl ((sp_rd0 K P (sp_sv K P seed P) sp_z00).2.2.1)))), (ra_23, .inl (cA 1, 72, .inr (.inl ((sp_rd0 K P (sp_sv K P seed P) sp_z00).2.2.2.1)))), (pe_20, .inr (1, [.long 0, .long 0, .long 0])), (q_10, .inr (3, [.int (nI K), .int (nI P), .int (nI (K + P)), .int (nI S), .int seed, .ref wa_12, .int (bx_sum (va_cpy wt (fun _ => 0) 0 0 12) 12), .ref ua_13, .ref sa_14])), (ua_13, .inl (cA 1, 8, .inr (.inl (sp_sv K P seed P))))] H := hP
                  have hD : va_D A [(fo, .inr (5, [.ref wta, .ref soa, .ref rea, .int (nI (cnt + 1)), .ref fb, .int fs, .ref ib])), (soa, .inl (cA 2, 4, .inr (.inr (.inr (.inr (va_up fS cnt (some q_10))))))), (rea, .inl (cA 3, 4, .inr (.inr (.inr (.inr (va_up fR cnt (some q_15))))))), (wa_12, .inl (cA 0, 12, .inl (va_cpy wt (fun _ => 0) 0 0 12))), (sa_14, .inl (cA 1, 32, .inr (.inl (fun _ => 0)))), (wta, .inl (cA 0, 12, .inl wt)), (q_15, .inr (2, [.ref q_10, .ref sp_17, .ref pe_20, .int ((sp_rd0 K P (sp_sv K P seed P) sp_z00).2.2.2.2.2), .ref na_21, .ref oa_22, .ref ra_23, .int (nI ((sp_rd0 K P (sp_sv K P seed P) sp_z00).2.2.2.2.1)), .int 0, .int 0, .int 0])), (sp_17, .inr (4, [.ref sra_18, .ref sva_19, .int (nI (((sp_rd0 K P (sp_sv K P seed P) sp_z00).1).2.2.1)), .long (((sp_rd0 K P (sp_sv K P seed P) sp_z00).1).2.2.2.1), .long (((sp_rd0 K P (sp_sv K P seed P) sp_z00).1).2.2.2.2)])), (sra_18, .inl (cA 1, 40, .inr (.inl (((sp_rd0 K P (sp_sv K P seed P) sp_z00).1).1)))), (sva_19, .inl (cA 1, 40, .inr (.inl (((sp_rd0 K P (sp_sv K P seed P) sp_z00).1).2.1)))), (na_21, .inl (cA 0, 64, .inl ((sp_rd0 K P (sp_sv K P seed P) sp_z00).2.1))), (oa_22, .inl (cA 1, 64, .inr (.inl ((sp_rd0 K P (sp_sv K P seed P) sp_z00).2.2.1)))), (ra_23, .inl (cA 1, 72, .inr (.inl ((sp_rd0 K P (sp_sv K P seed P) sp_z00).2.2.2.1)))), (pe_20, .inr (1, [.long 0, .long 0, .long 0])), (q_10, .inr (3, [.int (nI K), .int (nI P), .int (nI (K + P)), .int (nI S), .int seed, .ref wa_12, .int (bx_sum (va_cpy wt (fun _ => 0) 0 0 12) 12), .ref ua_13, .ref sa_14])), (ua_13, .inl (cA 1, 8, .inr (.inl (sp_sv K P seed P))))] := hD
                  refine lv_aload_n hx hb dX5_source_116 rfl (lv_at hl 1 rfl) ?_
                  refine va_get (D := (dC, dI)) (ci := 5) (v := .int (nI (cnt + 1))) (C := RX5) (T := TX5) (N := 7) hx hb hts inX5 hown hK hP 0 rfl rfl 3 (by decide) hk_1 (fun _ h9 => h9) rfl dX5_source_117 ?_
                  refine lv_iconst (v := 1) hx hb dX5_source_120 (by decide) ?_
                  refine lv_isub hx hb dX5_source_121 ?_
                  refine kt_i (y := nI cnt) (nI_pred cnt) ?_
                  have hP9 := hP.sub (ws' := [(fo, .inr (5, [.ref wta, .ref soa, .ref rea, .int (nI (cnt + 1)), .ref fb, .int fs, .ref ib])), (wta, .inl (cA 0, 12, .inl wt)), (soa, .inl (cA 2, 4, .inr (.inr (.inr (.inr (va_up fS cnt (some q_10))))))), (rea, .inl (cA 3, 4, .inr (.inr (.inr (.inr (va_up fR cnt (some q_15))))))), (q_10, .inr (3, [.int (nI K), .int (nI P), .int (nI (K + P)), .int (nI S), .int seed, .ref wa_12, .int (bx_sum (va_cpy wt (fun _ => 0) 0 0 12) 12), .ref ua_13, .ref sa_14])), (wa_12, .inl (cA 0, 12, .inl (va_cpy wt (fun _ => 0) 0 0 12))), (ua_13, .inl (cA 1, 8, .inr (.inl (sp_sv K P seed P)))), (sa_14, .inl (cA 1, 32, .inr (.inl (fun _ => 0)))), (q_15, .inr (2, [.ref q_10, .ref sp_17, .ref pe_20, .int ((sp_rd0 K P (sp_sv K P seed P) sp_z00).2.2.2.2.2), .ref na_21, .ref oa_22, .ref ra_23, .int (nI ((sp_rd0 K P (sp_sv K P seed P) sp_z00).2.2.2.2.1)), .int 0, .int 0, .int 0])), (sp_17, .inr (4, [.ref sra_18, .ref sva_19, .int (nI (((sp_rd0 K P (sp_sv K P seed P) sp_z00).1).2.2.1)), .long (((sp_rd0 K P (sp_sv K P seed P) sp_z00).1).2.2.2.1), .long (((sp_rd0 K P (sp_sv K P seed P) sp_z00).1).2.2.2.2)])), (sra_18, .inl (cA 1, 40, .inr (.inl (((sp_rd0 K P (sp_sv K P seed P) sp_z00).1).1)))), (sva_19, .inl (cA 1, 40, .inr (.inl (((sp_rd0 K P (sp_sv K P seed P) sp_z00).1).2.1)))), (na_21, .inl (cA 0, 64, .inl ((sp_rd0 K P (sp_sv K P seed P) sp_z00).2.1))), (oa_22, .inl (cA 1, 64, .inr (.inl ((sp_rd0 K P (sp_sv K P seed P) sp_z00).2.2.1)))), (ra_23, .inl (cA 1, 72, .inr (.inl ((sp_rd0 K P (sp_sv K P seed P) sp_z00).2.2.2.1)))), (pe_20, .inr (1, [.long 0, .long 0, .long 0]))]) [0, 5, 1, 2, 14, 3, 15, 4, 6, 7, 8, 9, 10, 11, 12, 13] rfl
                  have hD9 := hD.sub (ws' := [(fo, .inr (5, [.ref wta, .ref soa, .ref rea, .int (nI (cnt + 1)), .ref fb, .int fs, .ref ib])), (wta, .inl (cA 0, 12, .inl wt)), (soa, .inl (cA 2, 4, .inr (.inr (.inr (.inr (va_up fS cnt (some q_10))))))), (rea, .inl (cA 3, 4, .inr (.inr (.inr (.inr (va_up fR cnt (some q_15))))))), (q_10, .inr (3, [.int (nI K), .int (nI P), .int (nI (K + P)), .int (nI S), .int seed, .ref wa_12, .int (bx_sum (va_cpy wt (fun _ => 0) 0 0 12) 12), .ref ua_13, .ref sa_14])), (wa_12, .inl (cA 0, 12, .inl (va_cpy wt (fun _ => 0) 0 0 12))), (ua_13, .inl (cA 1, 8, .inr (.inl (sp_sv K P seed P)))), (sa_14, .inl (cA 1, 32, .inr (.inl (fun _ => 0)))), (q_15, .inr (2, [.ref q_10, .ref sp_17, .ref pe_20, .int ((sp_rd0 K P (sp_sv K P seed P) sp_z00).2.2.2.2.2), .ref na_21, .ref oa_22, .ref ra_23, .int (nI ((sp_rd0 K P (sp_sv K P seed P) sp_z00).2.2.2.2.1)), .int 0, .int 0, .int 0])), (sp_17, .inr (4, [.ref sra_18, .ref sva_19, .int (nI (((sp_rd0 K P (sp_sv K P seed P) sp_z00).1).2.2.1)), .long (((sp_rd0 K P (sp_sv K P seed P) sp_z00).1).2.2.2.1), .long (((sp_rd0 K P (sp_sv K P seed P) sp_z00).1).2.2.2.2)])), (sra_18, .inl (cA 1, 40, .inr (.inl (((sp_rd0 K P (sp_sv K P seed P) sp_z00).1).1)))), (sva_19, .inl (cA 1, 40, .inr (.inl (((sp_rd0 K P (sp_sv K P seed P) sp_z00).1).2.1)))), (na_21, .inl (cA 0, 64, .inl ((sp_rd0 K P (sp_sv K P seed P) sp_z00).2.1))), (oa_22, .inl (cA 1, 64, .inr (.inl ((sp_rd0 K P (sp_sv K P seed P) sp_z00).2.2.1)))), (ra_23, .inl (cA 1, 72, .inr (.inl ((sp_rd0 K P (sp_sv K P seed P) sp_z00).2.2.2.1)))), (pe_20, .inr (1, [.long 0, .long 0, .long 0]))]) [0, 5, 1, 2, 14, 3, 15, 4, 6, 7, 8, 9, 10, 11, 12, 13] (by decide) rfl
                  exact W.iret (v := nI cnt) hx hb hr (fun t9 ht9 hW9 => ⟨⟨nI cnt, (q_10, wa_12, ua_13, sa_14, q_15, sp_17, sra_18, sva_19, pe_20, na_21, oa_22, ra_23), rfl, rfl, by rw [ht9]; exact hP9, hD9⟩, hS.F ht9⟩) hS.2.2 dX5_source_122
                · have c_9 : ¬ ((nI cnt) < 4) := c_9
                  exact absurd (nI_lt (a := cnt) (b := 4) hcnt (by omega)) c_9
              · have c_8 : (bx_sum wt 12) = 0 := c_8
                exact absurd c_8 (htot)
            · have c_6 : ¬ ((nI S) ≤ 8) := c_6
              exact absurd (nI_le (a := S) (b := 8) hS8 (by omega)) c_6
