/-! what is known; bits below K + P alone; the reference's heads built anew -/
def loK (KP : Nat) (x : Int64) : Prop := ∀ i, KP ≤ i → i < 64 → gb x i = false
theorem loK_xor {KP : Nat} {x y : Int64} (hx : loK KP x) (hy : loK KP y) : loK KP (x ^^^ y) := fun i h1 h2 => by
  rw [gb_xor, hx i h1 h2, hy i h1 h2]; rfl
theorem loK_40 {KP : Nat} {x : Int64} (h : loK KP x) (hK : KP ≤ 40) : lo40 x := fun i h1 h2 => h i (by omega) h2
section
variable {rows : Nat → Int64} {row : Int64} {KP : Nat}
theorem loK_red (hl : ∀ i, i < 40 → loK KP (rows i)) (hr : loK KP row) : ∀ n, n ≤ 40 → loK KP (sp_red rows row n) := by
  intro n
  induction n with
  | zero => intro _; exact hr
  | succ n ih =>
    intro hn
    show loK KP (if lg_cmp (rows n) 0 = 0 then sp_red rows row n else if sp_bit row (nI n) = 0 then sp_red rows row n else sp_red rows row n ^^^ rows n)
    split
    · exact ih (by omega)
    · split
      · exact ih (by omega)
      · exact loK_xor (ih (by omega)) (hl n (by omega))
theorem loK_add (hl : ∀ i, i < 40 → loK KP (rows i)) (hr : loK KP row) : ∀ i, i < 40 → loK KP (sp_addr rows row i) := by
  intro i hi
  have h40 := loK_red hl hr 40 (Nat.le_refl _)
  by_cases c : sp_red rows row 40 = 0
  · have e1 : sp_addr rows row = rows := if_pos (lg_cmp0.mpr c)
    rw [e1]; exact hl i hi
  · rw [ad_pt c i hi]
    split
    · exact h40
    · split
      · exact loK_xor (hl i hi) h40
      · exact hl i hi
end
theorem eq_alone {rows : Nat → Int64} {i : Nat} (hi : i < 40) : ¬ sp_alone rows (nI i) = 0 ↔ rows i = jv_lshl 1 (nI i) := by
  unfold sp_alone
  rw [if_neg (nI_pos (by omega)), if_neg (show ¬ (40 : Int32) ≤ nI i from mt (nI_leI (a := 40) (b := i) (by omega) (by omega)).mp (by omega)), nI_clamp (by omega)]
  by_cases c : rows i = jv_lshl 1 (nI i)
  · rw [if_pos (lg_cmp0.mpr c)]; exact ⟨fun _ => c, fun _ => by decide⟩
  · rw [if_neg (mt lg_cmp0.mp c)]; exact ⟨fun q => absurd rfl q, fun q => absurd q c⟩
theorem one_nz {i : Nat} (hi : i < 64) : ¬ jv_lshl 1 (nI i) = 0 := gb_z (i := i) (by rw [gb_lshl1 hi hi]; exact decide_eq_true rfl)
section
variable {S R : SpS}
theorem RelS.unit (h : RelS S R) {i : Nat} (hi : i < 40) : sp_red S.1 (jv_lshl 1 (nI i)) 40 = 0 ↔ S.1 i = jv_lshl 1 (nI i) := by
  obtain ⟨h1, -, -, -, -, -, -⟩ := h
  constructor
  · intro q
    have a := cs_mem' (rows := S.1) (vals := S.2.1) (val := 0) q
    by_cases c : S.1 i = 0
    · have b := cs_zero h1 40 (Nat.le_refl _) _ _ a (fun k hk hz => by
        rw [gb_lshl1 (by omega) (by omega)]
        exact decide_eq_false (fun e => hz (by rw [e]; exact c)))
      exact absurd b.1 (one_nz (by omega))
    · have b := sn_add 40 _ _ _ _ a (sn_row 40 i hi c)
      have d := cs_zero h1 40 (Nat.le_refl _) _ _ b (fun k hk hz => by
        rw [gb_xor, gb_lshl1 (by omega) (by omega)]
        by_cases e : k = i
        · subst e; rw [decide_eq_true rfl, (h1 k hk hz).1]; rfl
        · rw [decide_eq_false e, (h1 k hk hz).2 i hi (fun q => e q.symm)]; rfl)
      exact (lx_eq d.1).symm
  · intro q
    have hz : ¬ S.1 i = 0 := by rw [q]; exact one_nz (by omega)
    have a := sn_row (rows := S.1) (vals := S.2.1) 40 i hi hz
    rw [q] at a
    exact cs_mem h1 ⟨_, a⟩
theorem RelS.knows (h : RelS S R) {i : Nat} (hi : i < 40) : sp_alone S.1 (nI i) = 0 ↔ rs_knows R.1 i = 0 := by
  have a := eq_alone (rows := S.1) hi
  have b := (h.unit hi)
  have c := h.red (row := jv_lshl 1 (nI i))
  unfold rs_knows
  by_cases q : rs_red R.1 (jv_lshl 1 (nI i)) 40 = 0
  · rw [if_pos (lg_cmp0.mpr q)]
    exact ⟨fun e => absurd e (a.mpr (b.mp (c.mpr q))), fun e => absurd e (by decide)⟩
  · rw [if_neg (mt lg_cmp0.mp q)]
    refine ⟨fun _ => rfl, fun _ => ?_⟩
    exact Classical.byContradiction (fun e => q (c.mp (b.mpr (a.mp e))))
theorem RelS.value (h : RelS S R) {i : Nat} (hi : i < 40) (hk : ¬ sp_alone S.1 (nI i) = 0) : S.2.1 i = rs_redv R.1 R.2.1 (jv_lshl 1 (nI i)) 0 40 := by
  have e := (eq_alone hi).mp hk
  have hz : ¬ S.1 i = 0 := by rw [e]; exact one_nz (by omega)
  have a := sn_row (rows := S.1) (vals := S.2.1) 40 i hi hz
  rw [e] at a
  have q := (h.unit hi).mpr e
  have b := rr_in (hd := R.1) (vl := R.2.1) (row := jv_lshl 1 (nI i)) (val := 0) 40 (Nat.le_refl _)
  rw [h.red.mp q, lx_0, lx_0'] at b
  exact h.uniq a ((h.2.2.2.2.1 _ _).mpr b)
theorem RelS.count (h : RelS S R) {KP : Nat} (hK : KP ≤ 40) (hl : ∀ i, i < 40 → loK KP (S.1 i)) : sp_cnt S.1 40 = rs_kc R.1 KP := by
  have h1 : ∀ n, n ≤ KP → sp_cnt S.1 n = rs_kc R.1 n := by
    intro n
    induction n with
    | zero => intro _; rfl
    | succ n ih =>
      intro hn
      show (if sp_alone S.1 (nI n) = 0 then sp_cnt S.1 n else sp_cnt S.1 n + 1) = (if rs_knows R.1 n = 0 then rs_kc R.1 n + 0 else rs_kc R.1 n + 1)
      rw [ih (by omega)]
      have k := h.knows (i := n) (by omega)
      by_cases c : sp_alone S.1 (nI n) = 0
      · rw [if_pos c, if_pos (k.mp c)]; rfl
      · rw [if_neg c, if_neg (mt k.mpr c)]
  have h2 : ∀ n, KP + n ≤ 40 → sp_cnt S.1 (KP + n) = sp_cnt S.1 KP := by
    intro n
    induction n with
    | zero => intro _; rfl
    | succ n ih =>
      intro hn
      show (if sp_alone S.1 (nI (KP + n)) = 0 then sp_cnt S.1 (KP + n) else sp_cnt S.1 (KP + n) + 1) = _
      have c : sp_alone S.1 (nI (KP + n)) = 0 := Classical.byContradiction (fun q => by
        have e := (eq_alone (by omega)).mp q
        have a := hl (KP + n) (by omega) (KP + n) (by omega) (by omega)
        rw [e, gb_lshl1 (by omega) (by omega), decide_eq_true rfl] at a; cases a)
      rw [if_pos c, ih (by omega)]
  have e := h2 (40 - KP) (by omega)
  rw [show KP + (40 - KP) = 40 from by omega] at e
  rw [e, h1 KP (Nat.le_refl _)]
end
/-- the reference's heads depend on what was taken alone -/
theorem eq_bld {K P : Nat} {seed : Int32} {wN : Nat → Nat} {j : Nat} {xsf xsf2 : Nat → Int32} {ouf ouf2 : Nat → Int64} {S1 : SpS} : ∀ n, (∀ q, P ≤ q → q < n → xsf (64 * j + q - P) = xsf2 (64 * j + q - P) ∧ ouf (64 * j + q - P) = ouf2 (64 * j + q - P)) → rs_bld K P seed wN j xsf ouf S1 n = rs_bld K P seed wN j xsf2 ouf2 S1 n := by
  intro n
  induction n with
  | zero => intro _; rfl
  | succ n ih =>
    intro h
    show rs_adds (rs_bld K P seed wN j xsf ouf S1 n) (rs_rowat K P seed wN j xsf n) (rs_val P j ouf n) = rs_adds (rs_bld K P seed wN j xsf2 ouf2 S1 n) (rs_rowat K P seed wN j xsf2 n) (rs_val P j ouf2 n)
    rw [ih (fun q h1 h2 => h q h1 (by omega))]
    have e1 : rs_rowat K P seed wN j xsf n = rs_rowat K P seed wN j xsf2 n := by
      unfold rs_rowat
      by_cases c : P ≤ n
      · rw [if_pos c, if_pos c, (h n c (by omega)).1]
      · rw [if_neg c, if_neg c]
    have e2 : rs_val P j ouf n = rs_val P j ouf2 n := by
      unfold rs_val
      by_cases c : P ≤ n
      · rw [if_pos c, if_pos c, (h n c (by omega)).2]
      · rw [if_neg c, if_neg c]
    rw [e1, e2]
theorem RelS.zero (S R : SpS) : RelS (sp_clrs S) (rs_bld0 R) := by
  have z : ∀ (f : Nat → Int64) i, i < 40 → sp_clr f 40 i = 0 := fun f i hi => if_pos hi
  have sz : ∀ (f g : Nat → Int64) n, n ≤ 40 → ∀ r v, sp_n (sp_clr f 40) g n r v ↔ (r = 0 ∧ v = 0) := by
    intro f g n
    induction n with
    | zero => intro _ r v; exact Iff.rfl
    | succ n ih =>
      intro hn r v
      constructor
      · intro h
        rcases h with h | ⟨hz, _⟩
        · exact (ih (by omega) r v).mp h
        · exact absurd (z f n (by omega)) hz
      · intro h; exact Or.inl ((ih (by omega) r v).mpr h)
  refine ⟨fun i hi hz => absurd (z S.1 i hi) hz, fun i hi hz => absurd (z R.1 i hi) hz, fun i hi => ?_, fun i hi => ?_, fun r v => ?_, fun v h => ?_, rfl⟩
  · show lo40 (sp_clr S.1 40 i)
    rw [z S.1 i hi]; exact lo40_0
  · show lo40 (sp_clr R.1 40 i)
    rw [z R.1 i hi]; exact lo40_0
  · exact Iff.trans (sz S.1 (sp_clr S.2.1 40) 40 (Nat.le_refl _) r v) (sz R.1 R.2.1 40 (Nat.le_refl _) r v).symm
  · exact ((sz S.1 (sp_clr S.2.1 40) 40 (Nat.le_refl _) 0 v).mp h).2
