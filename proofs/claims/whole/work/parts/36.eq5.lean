/-! the class's rows: the row at place i has bit i, and no other of them has it -/
def cs_rre (rows : Nat → Int64) : Prop := ∀ i, i < 40 → ¬ rows i = 0 → gb (rows i) i = true ∧ ∀ k, k < 40 → ¬ k = i → gb (rows k) i = false
/-- no bit at 40 or above -/
def lo40 (x : Int64) : Prop := ∀ i, 40 ≤ i → i < 64 → gb x i = false
theorem lo40_0 : lo40 0 := fun i _ _ => gb_0 i
theorem lo40_xor {x y : Int64} (hx : lo40 x) (hy : lo40 y) : lo40 (x ^^^ y) := fun i h1 h2 => by
  rw [gb_xor, hx i h1 h2, hy i h1 h2]; rfl
section
variable {rows vals : Nat → Int64} {row val : Int64}
theorem cs_in : ∀ n, n ≤ 40 → sp_n rows vals 40 (row ^^^ sp_red rows row n) (val ^^^ sp_redv rows vals row val n) := by
  intro n
  induction n with
  | zero =>
    intro _
    show sp_n rows vals 40 (row ^^^ row) (val ^^^ val)
    rw [lx_self, lx_self]; exact sn_0 40
  | succ n ih =>
    intro hn
    have h := ih (by omega)
    show sp_n rows vals 40 (row ^^^ (if lg_cmp (rows n) 0 = 0 then sp_red rows row n else if sp_bit row (nI n) = 0 then sp_red rows row n else sp_red rows row n ^^^ rows n)) (val ^^^ (if lg_cmp (rows n) 0 = 0 then sp_redv rows vals row val n else if sp_bit row (nI n) = 0 then sp_redv rows vals row val n else sp_redv rows vals row val n ^^^ vals n))
    by_cases c1 : lg_cmp (rows n) 0 = 0
    · rw [if_pos c1, if_pos c1]; exact h
    · rw [if_neg c1, if_neg c1]
      by_cases c2 : sp_bit row (nI n) = 0
      · rw [if_pos c2, if_pos c2]; exact h
      · rw [if_neg c2, if_neg c2, ← lx_assoc, ← lx_assoc]
        exact sn_add 40 _ _ _ _ h (sn_row 40 n (by omega) (mt lg_cmp0.mpr c1))
theorem cs_piv (he : cs_rre rows) : ∀ n, n ≤ 40 → ∀ i, i < 40 → ¬ rows i = 0 → gb (sp_red rows row n) i = if i < n then false else gb row i := by
  intro n
  induction n with
  | zero => intro _ i _ _; rw [if_neg (by omega)]; rfl
  | succ n ih =>
    intro hn i hi hz
    have h := ih (by omega) i hi hz
    show gb (if lg_cmp (rows n) 0 = 0 then sp_red rows row n else if sp_bit row (nI n) = 0 then sp_red rows row n else sp_red rows row n ^^^ rows n) i = _
    by_cases c : i = n
    · subst c
      rw [if_neg (by omega)] at h
      rw [if_neg (mt lg_cmp0.mp hz), if_pos (show i < i + 1 by omega)]
      by_cases c2 : sp_bit row (nI i) = 0
      · rw [if_pos c2, h]; exact (gb_bit row (by omega)).mp c2
      · rw [if_neg c2, gb_xor, h, gb_nt (mt (gb_bit row (by omega)).mpr c2), (he i hi hz).1]; rfl
    · have e : (if i < n + 1 then false else gb row i) = (if i < n then false else gb row i) := by
        by_cases c3 : i < n
        · rw [if_pos c3, if_pos (by omega)]
        · rw [if_neg c3, if_neg (by omega)]
      rw [e]
      split
      · exact h
      · split
        · exact h
        · rw [gb_xor, h, (he i hi hz).2 n (by omega) (fun q => c q.symm), Bool.xor_false]
theorem cs_piv0 (he : cs_rre rows) {i : Nat} (hi : i < 40) (hz : ¬ rows i = 0) : gb (sp_red rows row 40) i = false := by
  rw [cs_piv he 40 (Nat.le_refl _) i hi hz, if_pos hi]
theorem cs_zero (he : cs_rre rows) : ∀ n, n ≤ 40 → ∀ r v, sp_n rows vals n r v → (∀ i, i < n → ¬ rows i = 0 → gb r i = false) → r = 0 ∧ v = 0 := by
  intro n
  induction n with
  | zero => intro _ r v h _; exact h
  | succ n ih =>
    intro hn r v h h1
    rcases h with h | ⟨hz, h⟩
    · exact ih (by omega) r v h (fun i hi => h1 i (by omega))
    · have e := ih (by omega) _ _ h (fun i hi hi0 => by
        rw [gb_xor, h1 i (by omega) hi0, (he i (by omega) hi0).2 n (by omega) (by omega)]; rfl)
      have e1 : r = rows n := lx_eq e.1
      have a := h1 n (by omega) hz
      rw [e1, (he n (by omega) hz).1] at a; cases a
theorem cs_mem (he : cs_rre rows) (h : ∃ v, sp_n rows vals 40 row v) : sp_red rows row 40 = 0 := by
  obtain ⟨v, h⟩ := h
  have a := cs_in (rows := rows) (vals := vals) (row := row) (val := v) 40 (Nat.le_refl _)
  have b := sn_add 40 _ _ _ _ h a
  rw [← lx_assoc, lx_self, lx_0'] at b
  exact (cs_zero he 40 (Nat.le_refl _) _ _ b (fun i hi hz => cs_piv0 he hi hz)).1
/-- where the rest is 0, the row with the value less the rest's is in the span -/
theorem cs_mem' (h : sp_red rows row 40 = 0) : sp_n rows vals 40 row (val ^^^ sp_redv rows vals row val 40) := by
  have a := cs_in (rows := rows) (vals := vals) (row := row) (val := val) 40 (Nat.le_refl _)
  rw [h, lx_0] at a; exact a
theorem el_pt {rr : Int64} {own : Nat} (ho : own < 64) : ∀ n k, sp_el rows rr own n k = if k < n ∧ gb (rows k) own = true then rows k ^^^ rr else rows k := by
  intro n
  induction n with
  | zero => intro k; rw [if_neg (by omega)]; rfl
  | succ n ih =>
    intro k
    have en : sp_el rows rr own n n = rows n := by rw [ih n, if_neg (by omega)]
    show (if sp_bit (sp_el rows rr own n n) (nI own) = 0 then sp_el rows rr own n else vp_updL (sp_el rows rr own n) n (sp_el rows rr own n n ^^^ rr)) k = _
    rw [en]
    by_cases c : gb (rows n) own = true
    · rw [if_neg (eq_bit1 ho c)]
      by_cases c2 : k = n
      · subst c2; rw [pk_uLs, if_pos ⟨by omega, c⟩]
      · rw [pk_uLn c2, ih k]
        by_cases c3 : k < n ∧ gb (rows k) own = true
        · rw [if_pos c3, if_pos ⟨by omega, c3.2⟩]
        · rw [if_neg c3, if_neg (fun q => c3 ⟨by omega, q.2⟩)]
    · rw [if_pos (eq_bit0 ho (gb_nf c)), ih k]
      by_cases c3 : k < n ∧ gb (rows k) own = true
      · rw [if_pos c3, if_pos ⟨by omega, c3.2⟩]
      · rw [if_neg c3, if_neg (fun q => by
          by_cases c4 : k = n
          · subst c4; exact c q.2
          · exact c3 ⟨by omega, q.2⟩)]
theorem elv_pt {rr rv : Int64} {own : Nat} (ho : own < 64) : ∀ n k, sp_elv rows vals rr rv own n k = if k < n ∧ gb (rows k) own = true then vals k ^^^ rv else vals k := by
  intro n
  induction n with
  | zero => intro k; rw [if_neg (by omega)]; rfl
  | succ n ih =>
    intro k
    have en : sp_el rows rr own n n = rows n := by rw [el_pt ho n n, if_neg (by omega)]
    have ev : sp_elv rows vals rr rv own n n = vals n := by rw [ih n, if_neg (by omega)]
    show (if sp_bit (sp_el rows rr own n n) (nI own) = 0 then sp_elv rows vals rr rv own n else vp_updL (sp_elv rows vals rr rv own n) n (sp_elv rows vals rr rv own n n ^^^ rv)) k = _
    rw [en, ev]
    by_cases c : gb (rows n) own = true
    · rw [if_neg (eq_bit1 ho c)]
      by_cases c2 : k = n
      · subst c2; rw [pk_uLs, if_pos ⟨by omega, c⟩]
      · rw [pk_uLn c2, ih k]
        by_cases c3 : k < n ∧ gb (rows k) own = true
        · rw [if_pos c3, if_pos ⟨by omega, c3.2⟩]
        · rw [if_neg c3, if_neg (fun q => c3 ⟨by omega, q.2⟩)]
    · rw [if_pos (eq_bit0 ho (gb_nf c)), ih k]
      by_cases c3 : k < n ∧ gb (rows k) own = true
      · rw [if_pos c3, if_pos ⟨by omega, c3.2⟩]
      · rw [if_neg c3, if_neg (fun q => by
          by_cases c4 : k = n
          · subst c4; exact c q.2
          · exact c3 ⟨by omega, q.2⟩)]
theorem low_hit {rr : Int64} : ∀ n i p, i + n < 64 → i ≤ p → p ≤ i + n → gb rr p = true → gb rr (sp_low rr n i) = true := by
  intro n
  induction n with
  | zero => intro i p _ h1 h2 h3; rw [show p = i from by omega] at h3; exact h3
  | succ n ih =>
    intro i p hn h1 h2 h3
    show gb rr (if sp_bit rr (nI i) = 0 then sp_low rr n (i + 1) else i) = true
    by_cases c : gb rr i = true
    · rw [if_neg (eq_bit1 (by omega) c)]; exact c
    · rw [if_pos (eq_bit0 (by omega) (gb_nf c))]
      refine ih (i + 1) p (by omega) ?_ (by omega) h3
      rcases Nat.lt_or_ge i p with q | q
      · exact q
      · rw [show p = i from by omega] at h3; exact absurd h3 c
theorem nz_bit {x : Int64} (h : ¬ x = 0) (hl : lo40 x) : ∃ p, p < 40 ∧ gb x p = true := by
  apply Classical.byContradiction
  intro hn
  apply h
  apply gb_ext
  intro i hi
  rw [gb_0]
  by_cases c : i < 40
  · exact gb_nf (fun q => hn ⟨i, c, q⟩)
  · exact hl i (by omega) hi
theorem own_bit {rr : Int64} (h : ¬ rr = 0) (hl : lo40 rr) : gb rr (sp_low rr 39 0) = true := by
  obtain ⟨p, hp, hg⟩ := nz_bit h hl
  exact low_hit 39 0 p (by omega) (by omega) (by omega) hg
end
