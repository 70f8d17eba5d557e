/-! spans: a family of rows with values, a row at place i or none (0) -/
def sp_n (rows vals : Nat → Int64) : Nat → Int64 → Int64 → Prop
  | 0, r, v => r = 0 ∧ v = 0
  | n + 1, r, v => sp_n rows vals n r v ∨ (¬ rows n = 0 ∧ sp_n rows vals n (r ^^^ rows n) (v ^^^ vals n))
theorem lx_self (x : Int64) : x ^^^ x = 0 := by
  apply gb_ext; intro i _; rw [gb_xor, gb_0]; cases gb x i <;> rfl
theorem lx_assoc (x y z : Int64) : (x ^^^ y) ^^^ z = x ^^^ (y ^^^ z) := by
  apply gb_ext; intro i _; rw [gb_xor, gb_xor, gb_xor, gb_xor]; cases gb x i <;> cases gb y i <;> cases gb z i <;> rfl
theorem lx_comm (x y : Int64) : x ^^^ y = y ^^^ x := by
  apply gb_ext; intro i _; rw [gb_xor, gb_xor]; cases gb x i <;> cases gb y i <;> rfl
theorem lx_0 (x : Int64) : x ^^^ 0 = x := eq_xor0 x
theorem lx_0' (x : Int64) : 0 ^^^ x = x := by rw [lx_comm]; exact eq_xor0 x
theorem lx_cancel (x y : Int64) : (x ^^^ y) ^^^ y = x := by rw [lx_assoc, lx_self, lx_0]
theorem lx_eq {x y : Int64} (h : x ^^^ y = 0) : x = y := by
  have := congrArg (fun z => z ^^^ y) h
  simp only [lx_cancel, lx_0'] at this
  exact this
theorem lx_swap (x y z : Int64) : (x ^^^ y) ^^^ z = (x ^^^ z) ^^^ y := by rw [lx_assoc, lx_comm y z, ← lx_assoc]
theorem lx_four (a b c d : Int64) : (a ^^^ b) ^^^ (c ^^^ d) = (a ^^^ c) ^^^ (b ^^^ d) := by
  apply gb_ext; intro i _; rw [gb_xor, gb_xor, gb_xor, gb_xor, gb_xor, gb_xor]; cases gb a i <;> cases gb b i <;> cases gb c i <;> cases gb d i <;> rfl
section
variable {rows vals : Nat → Int64}
theorem sn_0 : ∀ n, sp_n rows vals n 0 0 := by
  intro n
  induction n with
  | zero => exact ⟨rfl, rfl⟩
  | succ n ih => exact Or.inl ih
theorem sn_add : ∀ n r v r2 v2, sp_n rows vals n r v → sp_n rows vals n r2 v2 → sp_n rows vals n (r ^^^ r2) (v ^^^ v2) := by
  intro n
  induction n with
  | zero =>
    intro r v r2 v2 h h2
    exact ⟨by rw [h.1, h2.1]; rfl, by rw [h.2, h2.2]; rfl⟩
  | succ n ih =>
    intro r v r2 v2 h h2
    rcases h with h | ⟨hn, h⟩
    · rcases h2 with h2 | ⟨_, h2⟩
      · exact Or.inl (ih _ _ _ _ h h2)
      · refine Or.inr ⟨by assumption, ?_⟩
        have := ih _ _ _ _ h h2
        rw [← lx_assoc, ← lx_assoc] at this
        exact this
    · rcases h2 with h2 | ⟨_, h2⟩
      · refine Or.inr ⟨hn, ?_⟩
        have := ih _ _ _ _ h h2
        rw [lx_swap r, lx_swap v] at this
        exact this
      · left
        have := ih _ _ _ _ h h2
        rw [lx_four r (rows n) r2 (rows n), lx_four v (vals n) v2 (vals n), lx_self, lx_self, lx_0, lx_0] at this
        exact this
theorem sn_row : ∀ n i, i < n → ¬ rows i = 0 → sp_n rows vals n (rows i) (vals i) := by
  intro n
  induction n with
  | zero => intro i h; omega
  | succ n ih =>
    intro i h hi
    by_cases c : i = n
    · subst c
      refine Or.inr ⟨hi, ?_⟩
      rw [lx_self, lx_self]; exact sn_0 i
    · exact Or.inl (ih i (by omega) hi)
/-- whatever holds of 0, of each row, and with two of their sum, holds of all -/
theorem sn_ind {Q : Int64 → Int64 → Prop} (h0 : Q 0 0) : ∀ n, (∀ i, i < n → ¬ rows i = 0 → ∀ r v, Q r v → Q (r ^^^ rows i) (v ^^^ vals i)) → ∀ r v, sp_n rows vals n r v → Q r v := by
  intro n
  induction n with
  | zero => intro _ r v h; rw [h.1, h.2]; exact h0
  | succ n ih =>
    intro hs r v h
    rcases h with h | ⟨hn, h⟩
    · exact ih (fun i hi => hs i (by omega)) r v h
    · have := hs n (by omega) hn _ _ (ih (fun i hi => hs i (by omega)) _ _ h)
      rw [lx_cancel, lx_cancel] at this
      exact this
/-- one family's rows in another's span: the span too -/
theorem sn_sub {rows2 vals2 : Nat → Int64} {n m : Nat} (h : ∀ i, i < n → ¬ rows i = 0 → sp_n rows2 vals2 m (rows i) (vals i)) {r v : Int64} (hs : sp_n rows vals n r v) : sp_n rows2 vals2 m r v :=
  sn_ind (Q := fun r v => sp_n rows2 vals2 m r v) (sn_0 m) n (fun i hi hn r v hq => sn_add m _ _ _ _ hq (h i hi hn)) r v hs
end
/-! the reference's heads: the row at place i has i as its lowest bit -/
def rs_ech (hd : Nat → Int64) : Prop := ∀ i, i < 40 → ¬ hd i = 0 → gb (hd i) i = true ∧ ∀ k, k < i → gb (hd i) k = false
section
variable {hd vl : Nat → Int64} {row val : Int64}
theorem rr_in : ∀ n, n ≤ 40 → sp_n hd vl 40 (row ^^^ rs_red hd row n) (val ^^^ rs_redv hd vl row val n) := by
  intro n
  induction n with
  | zero =>
    intro _
    show sp_n hd vl 40 (row ^^^ row) (val ^^^ val)
    rw [lx_self, lx_self]; exact sn_0 40
  | succ n ih =>
    intro hn
    have h := ih (by omega)
    show sp_n hd vl 40 (row ^^^ (if lg_cmp ((jv_lshr (rs_red hd row n) (nI n)) &&& 1) 1 = 0 then (if lg_cmp (hd n) 0 = 0 then rs_red hd row n else rs_red hd row n ^^^ hd n) else rs_red hd row n)) (val ^^^ (if lg_cmp ((jv_lshr (rs_red hd row n) (nI n)) &&& 1) 1 = 0 then (if lg_cmp (hd n) 0 = 0 then rs_redv hd vl row val n else rs_redv hd vl row val n ^^^ vl n) else rs_redv hd vl row val n))
    by_cases c1 : lg_cmp ((jv_lshr (rs_red hd row n) (nI n)) &&& 1) 1 = 0
    · rw [if_pos c1, if_pos c1]
      by_cases c2 : lg_cmp (hd n) 0 = 0
      · rw [if_pos c2, if_pos c2]; exact h
      · rw [if_neg c2, if_neg c2, ← lx_assoc, ← lx_assoc]
        exact sn_add 40 _ _ _ _ h (sn_row 40 n (by omega) (mt lg_cmp0.mpr c2))
    · rw [if_neg c1, if_neg c1]; exact h
theorem rr_piv (he : rs_ech hd) : ∀ n, n ≤ 40 → ∀ i, i < n → ¬ hd i = 0 → gb (rs_red hd row n) i = false := by
  intro n
  induction n with
  | zero => intro _ i h; omega
  | succ n ih =>
    intro hn i hi hz
    show gb (if lg_cmp ((jv_lshr (rs_red hd row n) (nI n)) &&& 1) 1 = 0 then (if lg_cmp (hd n) 0 = 0 then rs_red hd row n else rs_red hd row n ^^^ hd n) else rs_red hd row n) i = false
    by_cases c : i = n
    · subst c
      by_cases c1 : lg_cmp ((jv_lshr (rs_red hd row i) (nI i)) &&& 1) 1 = 0
      · rw [if_pos c1, if_neg (mt lg_cmp0.mp hz), gb_xor, (gb_t1 _ (by omega)).mp c1, (he i (by omega) hz).1]; rfl
      · rw [if_neg c1]; exact gb_nf (mt (gb_t1 _ (by omega)).mpr c1)
    · have h := ih (by omega) i (by omega) hz
      split
      · split
        · exact h
        · rename_i _ c2
          rw [gb_xor, h, (he n (by omega) (mt lg_cmp0.mpr c2)).2 i (by omega)]; rfl
      · exact h
/-- in the span, and no bit at a head's place: 0 -/
theorem rr_zero (he : rs_ech hd) : ∀ n, n ≤ 40 → ∀ r v, sp_n hd vl n r v → (∀ i, i < n → ¬ hd i = 0 → gb r i = false) → r = 0 ∧ v = 0 := by
  have low : ∀ n, n ≤ 40 → ∀ r v, sp_n hd vl n r v → ∀ r', (∀ i, i < n → ¬ hd i = 0 → gb r' i = false) → (∀ i, i < 40 → gb r' i = gb r i ∨ n ≤ i) → r = 0 ∧ v = 0 := by
    intro n
    induction n with
    | zero => intro _ r v h _ _ _; exact h
    | succ n ih =>
      intro hn r v h r' h1 h2
      rcases h with h | ⟨hz, h⟩
      · refine ih (by omega) r v h r' (fun i hi => h1 i (by omega)) (fun i hi => ?_)
        rcases h2 i hi with q | q
        · exact Or.inl q
        · exact Or.inr (by omega)
      · have e := ih (by omega) _ _ h r' (fun i hi => h1 i (by omega)) (fun i hi => ?_)
        · have e1 : r = hd n := lx_eq e.1
          have a := h1 n (by omega) hz
          rcases h2 n (by omega) with q | q
          · rw [q, e1, (he n (by omega) hz).1] at a; cases a
          · omega
        · by_cases c : i < n
          · rcases h2 i hi with q | q
            · left; rw [gb_xor, (he n (by omega) hz).2 i c, Bool.xor_false]; exact q
            · omega
          · exact Or.inr (by omega)
  intro n hn r v h h1
  exact low n hn r v h r h1 (fun i _ => Or.inl rfl)
theorem rr_mem (he : rs_ech hd) (h : ∃ v, sp_n hd vl 40 row v) : rs_red hd row 40 = 0 := by
  obtain ⟨v, h⟩ := h
  have a := rr_in (hd := hd) (vl := vl) (row := row) (val := v) 40 (Nat.le_refl _)
  have b := sn_add 40 _ _ _ _ h a
  rw [← lx_assoc, lx_self, lx_0'] at b
  exact (rr_zero he 40 (Nat.le_refl _) _ _ b (fun i hi hz => rr_piv he 40 (Nat.le_refl _) i hi hz)).1
end
