/-! one row more, in both families -/
theorem sn_ext {rows vals rows2 vals2 : Nat → Int64} {row val x y : Int64} (hx : sp_n rows vals 40 (row ^^^ x) (val ^^^ y))
    (h1 : ∀ k, k < 40 → ¬ rows2 k = 0 → sp_n rows vals 40 (rows2 k) (vals2 k) ∨ sp_n rows vals 40 (rows2 k ^^^ x) (vals2 k ^^^ y))
    (h2 : ∀ k, k < 40 → ¬ rows k = 0 → sp_n rows2 vals2 40 (rows k) (vals k)) (h3 : sp_n rows2 vals2 40 x y) (r v : Int64) :
    sp_n rows2 vals2 40 r v ↔ (sp_n rows vals 40 r v ∨ sp_n rows vals 40 (r ^^^ row) (v ^^^ val)) := by
  have up : ∀ r v, sp_n rows vals 40 r v → sp_n rows2 vals2 40 r v := fun r v h => sn_sub h2 h
  constructor
  · intro h
    have key : sp_n rows vals 40 r v ∨ sp_n rows vals 40 (r ^^^ x) (v ^^^ y) := by
      refine sn_ind (Q := fun r v => sp_n rows vals 40 r v ∨ sp_n rows vals 40 (r ^^^ x) (v ^^^ y)) (Or.inl (sn_0 40)) 40 (fun k hk hz r v hq => ?_) r v h
      rcases hq with hq | hq
      · rcases h1 k hk hz with a | a
        · exact Or.inl (sn_add 40 _ _ _ _ hq a)
        · right
          have := sn_add 40 _ _ _ _ hq a
          rw [← lx_assoc, ← lx_assoc] at this; exact this
      · rcases h1 k hk hz with a | a
        · right
          have := sn_add 40 _ _ _ _ hq a
          rw [lx_swap r x, lx_swap v y] at this; exact this
        · left
          have := sn_add 40 _ _ _ _ hq a
          rw [lx_four r x (rows2 k) x, lx_four v y (vals2 k) y, lx_self, lx_self, lx_0, lx_0] at this; exact this
    rcases key with a | a
    · exact Or.inl a
    · right
      have := sn_add 40 _ _ _ _ a hx
      rw [lx_comm row x, lx_comm val y, lx_four r x x row, lx_four v y y val, lx_swap r x, lx_swap v y] at this
      have e1 : ∀ a b c : Int64, (a ^^^ b) ^^^ (b ^^^ c) = a ^^^ c := fun a b c => by
        rw [lx_assoc, ← lx_assoc b b c, lx_self, lx_0']
      have t := sn_add 40 _ _ _ _ a hx
      rw [lx_comm row x, lx_comm val y, e1, e1] at t
      exact t
  · intro h
    rcases h with a | a
    · exact up r v a
    · have b := sn_add 40 _ _ _ _ (up _ _ a) (sn_add 40 _ _ _ _ (up _ _ hx) h3)
      rw [lx_cancel, lx_cancel, lx_cancel, lx_cancel] at b
      exact b
section
variable {rows vals : Nat → Int64} {row val : Int64}
theorem lo_red (hl : ∀ i, i < 40 → lo40 (rows i)) (hr : lo40 row) : ∀ n, n ≤ 40 → lo40 (sp_red rows row n) := by
  intro n
  induction n with
  | zero => intro _; exact hr
  | succ n ih =>
    intro hn
    show lo40 (if lg_cmp (rows n) 0 = 0 then sp_red rows row n else if sp_bit row (nI n) = 0 then sp_red rows row n else sp_red rows row n ^^^ rows n)
    split
    · exact ih (by omega)
    · split
      · exact ih (by omega)
      · exact lo40_xor (ih (by omega)) (hl n (by omega))
theorem ad_pt (h : ¬ sp_red rows row 40 = 0) (k : Nat) (hk : k < 40) : sp_addr rows row k = if k = sp_low (sp_red rows row 40) 39 0 then sp_red rows row 40 else if gb (rows k) (sp_low (sp_red rows row 40) 39 0) = true then rows k ^^^ sp_red rows row 40 else rows k := by
  have ho := sp_low_lt (sp_red rows row 40)
  unfold sp_addr
  rw [if_neg (mt lg_cmp0.mp h)]
  by_cases c : k = sp_low (sp_red rows row 40) 39 0
  · rw [if_pos c, ← c, pk_uLs]
  · rw [if_neg c, pk_uLn c, el_pt (by omega)]
    by_cases c2 : gb (rows k) (sp_low (sp_red rows row 40) 39 0) = true
    · rw [if_pos c2, if_pos ⟨hk, c2⟩]
    · rw [if_neg c2, if_neg (fun q => c2 q.2)]
theorem adv_pt (h : ¬ sp_red rows row 40 = 0) (k : Nat) (hk : k < 40) : sp_addv rows vals row val k = if k = sp_low (sp_red rows row 40) 39 0 then sp_redv rows vals row val 40 else if gb (rows k) (sp_low (sp_red rows row 40) 39 0) = true then vals k ^^^ sp_redv rows vals row val 40 else vals k := by
  have ho := sp_low_lt (sp_red rows row 40)
  unfold sp_addv
  rw [if_neg (mt lg_cmp0.mp h)]
  by_cases c : k = sp_low (sp_red rows row 40) 39 0
  · rw [if_pos c, ← c, pk_uLs]
  · rw [if_neg c, pk_uLn c, elv_pt (by omega)]
    by_cases c2 : gb (rows k) (sp_low (sp_red rows row 40) 39 0) = true
    · rw [if_pos c2, if_pos ⟨hk, c2⟩]
    · rw [if_neg c2, if_neg (fun q => c2 q.2)]
theorem gb_z {x : Int64} {i : Nat} (h : gb x i = true) : ¬ x = 0 := fun e => by rw [e, gb_0] at h; cases h
theorem cs_add (he : cs_rre rows) (hl : ∀ i, i < 40 → lo40 (rows i)) (hr : lo40 row) (h : ¬ sp_red rows row 40 = 0) :
    cs_rre (sp_addr rows row) ∧ (∀ i, i < 40 → lo40 (sp_addr rows row i)) ∧ ∀ r v, sp_n (sp_addr rows row) (sp_addv rows vals row val) 40 r v ↔ (sp_n rows vals 40 r v ∨ sp_n rows vals 40 (r ^^^ row) (v ^^^ val)) := by
  have hlo := lo_red hl hr 40 (Nat.le_refl _)
  have ho := sp_low_lt (sp_red rows row 40)
  have hb := own_bit h hlo
  have P := ad_pt h
  have V := adv_pt (vals := vals) (val := val) h
  have hpiv : ∀ i, i < 40 → ¬ rows i = 0 → gb (sp_red rows row 40) i = false := fun i hi hz => cs_piv0 he hi hz
  have hin := cs_in (rows := rows) (vals := vals) (row := row) (val := val) 40 (Nat.le_refl _)
  generalize sp_red rows row 40 = rr at *
  generalize sp_redv rows vals row val 40 = rv at *
  generalize sp_low rr 39 0 = own at *
  have h0 : rows own = 0 := Classical.byContradiction (fun q => by rw [hpiv own ho q] at hb; cases hb)
  have nz : ∀ k, k < 40 → ¬ rows k = 0 → ¬ sp_addr rows row k = 0 := by
    intro k hk hz
    have ne : ¬ k = own := fun q => hz (by rw [q]; exact h0)
    apply gb_z (i := k)
    rw [P k hk, if_neg ne]
    split
    · rw [gb_xor, (he k hk hz).1, hpiv k hk hz]; rfl
    · exact (he k hk hz).1
  have zn : ∀ k, k < 40 → ¬ k = own → ¬ sp_addr rows row k = 0 → ¬ rows k = 0 := by
    intro k hk ne hz q
    apply hz
    rw [P k hk, if_neg ne, q, gb_0, if_neg (by decide)]
  refine ⟨?_, ?_, ?_⟩
  · intro i hi hz
    by_cases c : i = own
    · refine ⟨by rw [P i hi, if_pos c, c]; exact hb, fun k hk hne => ?_⟩
      rw [P k hk, if_neg (by rw [← c]; exact hne)]
      split
      · rename_i c2
        rw [gb_xor, c, c2, hb]; rfl
      · rename_i c2
        rw [c]; exact gb_nf c2
    · have hzi := zn i hi c hz
      refine ⟨?_, fun k hk hne => ?_⟩
      · rw [P i hi, if_neg c]
        split
        · rw [gb_xor, (he i hi hzi).1, hpiv i hi hzi]; rfl
        · exact (he i hi hzi).1
      · rw [P k hk]
        split
        · exact hpiv i hi hzi
        · split
          · rw [gb_xor, (he i hi hzi).2 k hk hne, hpiv i hi hzi]; rfl
          · exact (he i hi hzi).2 k hk hne
  · intro i hi
    rw [P i hi]
    split
    · exact hlo
    · split
      · exact lo40_xor (hl i hi) hlo
      · exact hl i hi
  · have h3 : sp_n (sp_addr rows row) (sp_addv rows vals row val) 40 rr rv := by
      have := sn_row (rows := sp_addr rows row) (vals := sp_addv rows vals row val) 40 own ho (by rw [P own ho, if_pos rfl]; exact h)
      rw [P own ho, V own ho, if_pos rfl, if_pos rfl] at this
      exact this
    refine sn_ext hin (fun k hk hz => ?_) (fun k hk hz => ?_) h3
    · rw [P k hk, V k hk]
      by_cases c : k = own
      · rw [if_pos c, if_pos c]
        right; rw [lx_self, lx_self]; exact sn_0 40
      · rw [if_neg c, if_neg c]
        have hzk := zn k hk c hz
        by_cases c2 : gb (rows k) own = true
        · rw [if_pos c2, if_pos c2]
          right; rw [lx_cancel, lx_cancel]; exact sn_row 40 k hk hzk
        · rw [if_neg c2, if_neg c2]
          exact Or.inl (sn_row 40 k hk hzk)
    · have ne : ¬ k = own := fun q => hz (by rw [q]; exact h0)
      have a := sn_row (rows := sp_addr rows row) (vals := sp_addv rows vals row val) 40 k hk (nz k hk hz)
      rw [P k hk, V k hk, if_neg ne, if_neg ne] at a
      by_cases c2 : gb (rows k) own = true
      · rw [if_pos c2, if_pos c2] at a
        have b := sn_add 40 _ _ _ _ a h3
        rw [lx_cancel, lx_cancel] at b; exact b
      · rw [if_neg c2, if_neg c2] at a; exact a
end
