/-! the reference's family with one row more, and both beside each other -/
section
variable {hd vl : Nat → Int64} {row val : Int64}
theorem lo_rred (hl : ∀ i, i < 40 → lo40 (hd i)) (hr : lo40 row) : ∀ n, n ≤ 40 → lo40 (rs_red hd row n) := by
  intro n
  induction n with
  | zero => intro _; exact hr
  | succ n ih =>
    intro hn
    show lo40 (if lg_cmp ((jv_lshr (rs_red hd row n) (nI n)) &&& 1) 1 = 0 then (if lg_cmp (hd n) 0 = 0 then rs_red hd row n else rs_red hd row n ^^^ hd n) else rs_red hd row n)
    split
    · split
      · exact ih (by omega)
      · exact lo40_xor (ih (by omega)) (hl n (by omega))
    · exact ih (by omega)
theorem rlo_le {x : Int64} : ∀ n i, i ≤ rs_lo x n i ∧ rs_lo x n i ≤ i + n := by
  intro n
  induction n with
  | zero => intro i; exact ⟨Nat.le_refl _, Nat.le_refl _⟩
  | succ n ih =>
    intro i
    show i ≤ (if lg_cmp ((jv_lshr x (nI i)) &&& 1) 0 = 0 then rs_lo x n (i + 1) else i) ∧ (if lg_cmp ((jv_lshr x (nI i)) &&& 1) 0 = 0 then rs_lo x n (i + 1) else i) ≤ i + (n + 1)
    have := ih (i + 1)
    split <;> omega
theorem rlo_spec {x : Int64} : ∀ n i, i + n ≤ 64 → (∀ k, i ≤ k → k < rs_lo x n i → gb x k = false) ∧ (rs_lo x n i < i + n → gb x (rs_lo x n i) = true) := by
  intro n
  induction n with
  | zero => intro i _; exact ⟨fun k h1 h2 => by have : rs_lo x 0 i = i := rfl; omega, fun h => by have : rs_lo x 0 i = i := rfl; omega⟩
  | succ n ih =>
    intro i hn
    have e : rs_lo x (n + 1) i = if lg_cmp ((jv_lshr x (nI i)) &&& 1) 0 = 0 then rs_lo x n (i + 1) else i := rfl
    by_cases c : gb x i = false
    · rw [e, if_pos ((gb_t0 x (by omega)).mpr c)]
      obtain ⟨a, b⟩ := ih (i + 1) (by omega)
      refine ⟨fun k h1 h2 => ?_, fun h => b (by omega)⟩
      by_cases c2 : k = i
      · rw [c2]; exact c
      · exact a k (by omega) h2
    · rw [e, if_neg (mt (gb_t0 x (by omega)).mp c)]
      exact ⟨fun k h1 h2 => by omega, fun _ => gb_nt c⟩
theorem rlo_big {x : Int64} (hl : lo40 x) (h : 40 ≤ rs_lo x 40 0) : x = 0 := by
  apply gb_ext
  intro i hi
  rw [gb_0]
  by_cases c : i < 40
  · exact (rlo_spec (x := x) 40 0 (by omega)).1 i (by omega) (by omega)
  · exact hl i (by omega) hi
theorem rlo_zero (h : rs_red hd row 40 = 0) : 40 ≤ rs_lo (rs_red hd row 40) 40 0 := by
  rw [h]
  rcases Nat.lt_or_ge (rs_lo 0 40 0) 40 with c | c
  · have := (rlo_spec (x := 0) 40 0 (by omega)).2 (by omega)
    rw [gb_0] at this; cases this
  · exact c
theorem rs_add (he : rs_ech hd) (hl : ∀ i, i < 40 → lo40 (hd i)) (hr : lo40 row) (h : ¬ rs_red hd row 40 = 0) {rk : Nat} {a b : Int64} :
    rs_ech (rs_adds (hd, vl, rk, a, b) row val).1 ∧ (∀ i, i < 40 → lo40 ((rs_adds (hd, vl, rk, a, b) row val).1 i)) ∧ (rs_adds (hd, vl, rk, a, b) row val).2.2.1 = rk + 1 ∧ ∀ r v, sp_n (rs_adds (hd, vl, rk, a, b) row val).1 (rs_adds (hd, vl, rk, a, b) row val).2.1 40 r v ↔ (sp_n hd vl 40 r v ∨ sp_n hd vl 40 (r ^^^ row) (v ^^^ val)) := by
  have hlo := lo_rred hl hr 40 (Nat.le_refl _)
  have hlt : ¬ 40 ≤ rs_lo (rs_red hd row 40) 40 0 := fun q => h (rlo_big hlo q)
  have hsp := rlo_spec (x := rs_red hd row 40) 40 0 (by omega)
  have hpiv : ∀ i, i < 40 → ¬ hd i = 0 → gb (rs_red hd row 40) i = false := fun i hi hz => rr_piv he 40 (Nat.le_refl _) i hi hz
  have hin := rr_in (hd := hd) (vl := vl) (row := row) (val := val) 40 (Nat.le_refl _)
  have e : rs_adds (hd, vl, rk, a, b) row val = (vp_updL hd (rs_lo (rs_red hd row 40) 40 0) (rs_red hd row 40), vp_updL vl (rs_lo (rs_red hd row 40) 40 0) (rs_redv hd vl row val 40), rk + 1, rs_red hd row 40, rs_redv hd vl row val 40) := if_neg hlt
  rw [e]
  generalize rs_red hd row 40 = rr at *
  generalize rs_redv hd vl row val 40 = rv at *
  generalize rs_lo rr 40 0 = lo at *
  have ho : lo < 40 := by omega
  have hb : gb rr lo = true := hsp.2 (by omega)
  have h0 : hd lo = 0 := Classical.byContradiction (fun q => by rw [hpiv lo ho q] at hb; cases hb)
  refine ⟨?_, ?_, rfl, ?_⟩
  · intro i hi hz
    show gb (vp_updL hd lo rr i) i = true ∧ ∀ k, k < i → gb (vp_updL hd lo rr i) k = false
    by_cases c : i = lo
    · subst c
      rw [pk_uLs]
      exact ⟨hb, fun k hk => hsp.1 k (by omega) hk⟩
    · rw [pk_uLn c]
      have hz' : ¬ hd i = 0 := by
        intro q; apply hz; show vp_updL hd lo rr i = 0; rw [pk_uLn c]; exact q
      exact he i hi hz'
  · intro i hi
    show lo40 (vp_updL hd lo rr i)
    by_cases c : i = lo
    · subst c; rw [pk_uLs]; exact hlo
    · rw [pk_uLn c]; exact hl i hi
  · have h3 : sp_n (vp_updL hd lo rr) (vp_updL vl lo rv) 40 rr rv := by
      have := sn_row (rows := vp_updL hd lo rr) (vals := vp_updL vl lo rv) 40 lo ho (by rw [pk_uLs]; exact h)
      rw [pk_uLs, pk_uLs] at this
      exact this
    refine sn_ext (rows2 := vp_updL hd lo rr) (vals2 := vp_updL vl lo rv) hin (fun k hk hz => ?_) (fun k hk hz => ?_) h3
    · by_cases c : k = lo
      · subst c
        rw [pk_uLs, pk_uLs]
        right; rw [lx_self, lx_self]; exact sn_0 40
      · rw [pk_uLn c] at hz ⊢
        rw [pk_uLn c]
        exact Or.inl (sn_row 40 k hk hz)
    · have ne : ¬ k = lo := fun q => hz (by rw [q]; exact h0)
      have a := sn_row (rows := vp_updL hd lo rr) (vals := vp_updL vl lo rv) 40 k hk (by rw [pk_uLn ne]; exact hz)
      rw [pk_uLn ne, pk_uLn ne] at a
      exact a
end
/-- both families span the same, without contradiction, and have as many rows -/
def RelS (S R : SpS) : Prop := cs_rre S.1 ∧ rs_ech R.1 ∧ (∀ i, i < 40 → lo40 (S.1 i)) ∧ (∀ i, i < 40 → lo40 (R.1 i)) ∧ (∀ r v, sp_n S.1 S.2.1 40 r v ↔ sp_n R.1 R.2.1 40 r v) ∧ (∀ v, sp_n S.1 S.2.1 40 0 v → v = 0) ∧ S.2.2.1 = R.2.2.1
section
variable {S R : SpS} {row val : Int64}
theorem RelS.red (h : RelS S R) : sp_red S.1 row 40 = 0 ↔ rs_red R.1 row 40 = 0 := by
  obtain ⟨h1, h2, h3, h4, h5, h6, h7⟩ := h
  constructor
  · intro q
    exact rr_mem h2 ⟨_, (h5 _ _).mp (cs_mem' (val := 0) q)⟩
  · intro q
    have a := rr_in (hd := R.1) (vl := R.2.1) (row := row) (val := 0) 40 (Nat.le_refl _)
    rw [q, lx_0] at a
    exact cs_mem h1 ⟨_, (h5 _ _).mpr a⟩
theorem RelS.uniq (h : RelS S R) {r v w : Int64} (a : sp_n S.1 S.2.1 40 r v) (b : sp_n S.1 S.2.1 40 r w) : v = w := by
  have c := sn_add 40 _ _ _ _ a b
  rw [lx_self] at c
  exact lx_eq (h.2.2.2.2.2.1 _ c)
theorem RelS.redv (h : RelS S R) (q : sp_red S.1 row 40 = 0) : sp_redv S.1 S.2.1 row val 40 = rs_redv R.1 R.2.1 row val 40 := by
  have a := cs_mem' (rows := S.1) (vals := S.2.1) (row := row) (val := val) q
  have b := rr_in (hd := R.1) (vl := R.2.1) (row := row) (val := val) 40 (Nat.le_refl _)
  rw [h.red.mp q, lx_0] at b
  have e := h.uniq a ((h.2.2.2.2.1 _ _).mpr b)
  have := congrArg (fun z => val ^^^ z) e
  simp only [← lx_assoc, lx_self, lx_0'] at this
  exact this
theorem RelS.contra (h : RelS S R) : sp_contra S.1 S.2.1 row val = rs_contra R row val := by
  unfold sp_contra rs_contra
  by_cases c : sp_red S.1 row 40 = 0
  · rw [if_pos (lg_cmp0.mpr c), if_pos (lg_cmp0.mpr (h.red.mp c)), h.redv c]
  · rw [if_neg (mt lg_cmp0.mp c), if_neg (mt lg_cmp0.mp (mt h.red.mpr c))]
theorem RelS.add (h : RelS S R) (hr : lo40 row) (hc : sp_contra S.1 S.2.1 row val = 0) : RelS (sp_adds S row val) (rs_adds R row val) := by
  obtain ⟨h1, h2, h3, h4, h5, h6, h7⟩ := id h
  have hk : (sp_adds S row val).1 = sp_addr S.1 row := rfl
  by_cases c : sp_red S.1 row 40 = 0
  · have e1 : sp_addr S.1 row = S.1 := if_pos (lg_cmp0.mpr c)
    have e2 : sp_addv S.1 S.2.1 row val = S.2.1 := if_pos (lg_cmp0.mpr c)
    have e3 : sp_addk S.1 row S.2.2.1 = S.2.2.1 := if_pos (lg_cmp0.mpr c)
    have e4 : rs_adds R row val = (R.1, R.2.1, R.2.2.1, rs_red R.1 row 40, rs_redv R.1 R.2.1 row val 40) := if_pos (rlo_zero (h.red.mp c))
    rw [e4]
    show RelS (sp_addr S.1 row, sp_addv S.1 S.2.1 row val, sp_addk S.1 row S.2.2.1, sp_red S.1 row 40, sp_redv S.1 S.2.1 row val 40) _
    rw [e1, e2, e3]
    exact ⟨h1, h2, h3, h4, h5, h6, h7⟩
  · obtain ⟨a1, a2, a3⟩ := cs_add (vals := S.2.1) (val := val) h1 h3 hr c
    obtain ⟨b1, b2, b3, b4⟩ := rs_add (vl := R.2.1) (val := val) h2 h4 hr (mt h.red.mpr c) (rk := R.2.2.1) (a := R.2.2.2.1) (b := R.2.2.2.2)
    refine ⟨a1, b1, a2, b2, fun r v => ?_, fun v hv => ?_, ?_⟩
    · show sp_n (sp_addr S.1 row) (sp_addv S.1 S.2.1 row val) 40 r v ↔ _
      rw [a3]
      refine Iff.trans ?_ (b4 r v).symm
      rw [h5, h5]
    · rcases (a3 0 v).mp hv with q | q
      · exact h6 v q
      · rw [lx_0'] at q
        exact absurd (cs_mem h1 ⟨_, q⟩) c
    · show sp_addk S.1 row S.2.2.1 = (rs_adds R row val).2.2.1
      have e3 : sp_addk S.1 row S.2.2.1 = S.2.2.1 + 1 := if_neg (mt lg_cmp0.mp c)
      rw [e3, h7]; exact b3.symm
end
