/-! receivers: what the class keeps of what was taken, beside the reference's arrays -/
theorem zv_redv {rows vals : Nat → Int64} {row : Int64} (h : ∀ i, i < 40 → vals i = 0) : ∀ n, n ≤ 40 → sp_redv rows vals row 0 n = 0 := by
  intro n
  induction n with
  | zero => intro _; rfl
  | succ n ih =>
    intro hn
    show (if lg_cmp (rows n) 0 = 0 then sp_redv rows vals row 0 n else if sp_bit row (nI n) = 0 then sp_redv rows vals row 0 n else sp_redv rows vals row 0 n ^^^ vals n) = 0
    rw [ih (by omega), h n (by omega)]
    split
    · rfl
    · split <;> rfl
theorem zv_elv {rows vals : Nat → Int64} {rr : Int64} {own : Nat} (h : ∀ i, i < 40 → vals i = 0) : ∀ n, n ≤ 40 → ∀ i, i < 40 → sp_elv rows vals rr 0 own n i = 0 := by
  intro n
  induction n with
  | zero => intro _ i hi; exact h i hi
  | succ n ih =>
    intro hn i hi
    show (if sp_bit (sp_el rows rr own n n) (nI own) = 0 then sp_elv rows vals rr 0 own n else vp_updL (sp_elv rows vals rr 0 own n) n (sp_elv rows vals rr 0 own n n ^^^ 0)) i = 0
    split
    · exact ih (by omega) i hi
    · by_cases c : i = n
      · subst c; rw [pk_uLs, ih (by omega) i hi]; rfl
      · rw [pk_uLn c]; exact ih (by omega) i hi
theorem zv_add {rows vals : Nat → Int64} {row : Int64} (h : ∀ i, i < 40 → vals i = 0) : ∀ i, i < 40 → sp_addv rows vals row 0 i = 0 := by
  intro i hi
  unfold sp_addv
  split
  · exact h i hi
  · rw [zv_redv h 40 (Nat.le_refl _)]
    by_cases c : i = sp_low (sp_red rows row 40) 39 0
    · subst c; exact pk_uLs
    · rw [pk_uLn c]; exact zv_elv h 40 (Nat.le_refl _) i hi
theorem zv_contra {rows vals : Nat → Int64} {row : Int64} (h : ∀ i, i < 40 → vals i = 0) : sp_contra rows vals row 0 = 0 := by
  unfold sp_contra
  rw [zv_redv h 40 (Nat.le_refl _)]
  split
  · exact if_pos (lg_cmp0.mpr rfl)
  · rfl
theorem loK_0 {KP : Nat} : loK KP 0 := fun i _ _ => gb_0 i
theorem loK_or {KP : Nat} {x y : Int64} (hx : loK KP x) (hy : loK KP y) : loK KP (x ||| y) := fun i h1 h2 => by
  rw [gb_or, hx i h1 h2, hy i h1 h2]; rfl
theorem loK_1 {KP i : Nat} (h : i < KP) (h4 : KP ≤ 40) : loK KP (jv_lshl 1 (nI i)) := fun q h1 h2 => by
  rw [gb_lshl1 (by omega) h2]; exact decide_eq_false (by omega)
theorem loK_rowl {KP : Nat} (h0 : 0 < KP) (h4 : KP ≤ 40) : ∀ n z y, loK KP y → loK KP (sp_rowl KP n z y) := by
  intro n
  induction n with
  | zero => intro z y h; exact h
  | succ n ih =>
    intro z y h
    exact ih _ _ (loK_or h (loK_1 (sp_fo_lt h0 _ _ (Nat.mod_lt _ h0)) h4))
theorem loK_row {K P : Nat} {seed : Int32} {wN : Nat → Nat} {x : Int32} (hK1 : 1 ≤ K) (hK : K ≤ 32) (hP : P ≤ 8) (hx : ¬ x < 0) : loK (K + P) (rs_row K P seed wN x) := by
  unfold rs_row
  by_cases c : nI K ≤ x
  · rw [if_pos c]; exact loK_rowl (by omega) (by omega) _ _ _ loK_0
  · rw [if_neg c]
    obtain ⟨i, hi, rfl⟩ := nI_of hx
    have : i < K := (ku_nle (by omega) hi).mp c
    exact loK_1 (by omega) (by omega)
theorem loK_row0 {K P : Nat} {seed : Int32} {su : Nat → Int64} (hK : K ≤ 32) (hP : P ≤ 8) (hu : eq_SU K P seed su) {q : Nat} (hq : q < P) : loK (K + P) (sp_row0 K P su q) := by
  unfold sp_row0
  rw [eq_sos hq hP, hu q hq, ← eq_draw _ K hK]
  refine loK_or (fun i h1 h2 => eq_sb_bits K hK i (by omega) h2) (loK_1 (by omega) (by omega))
theorem eq_row0 {K P : Nat} {seed : Int32} {su : Nat → Int64} {wN : Nat → Nat} {j : Nat} {xsf : Nat → Int32} (hP : P ≤ 8) (hu : eq_SU K P seed su) {q : Nat} (hq : q < P) : sp_row0 K P su q = rs_rowat K P seed wN j xsf q := by
  unfold sp_row0 rs_rowat
  rw [eq_sos hq hP, hu q hq, if_neg (by omega)]
theorem eq_r0 {K P : Nat} {su rws : Nat → Int64} : ∀ n q, q < n → sp_r0 K P su rws n q = sp_row0 K P su q := by
  intro n
  induction n with
  | zero => intro q h; omega
  | succ n ih =>
    intro q h
    show vp_updL (sp_r0 K P su rws n) n (sp_row0 K P su n) q = _
    by_cases c : q = n
    · subst c; exact pk_uLs
    · rw [pk_uLn c]; exact ih q (by omega)
theorem RelS.start {K P : Nat} {seed : Int32} {su : Nat → Int64} {wN : Nat → Nat} {j : Nat} {xsf : Nat → Int32} {ouf : Nat → Int64} {S S1 : SpS} (hK : K ≤ 32) (hP : P ≤ 8) (hu : eq_SU K P seed su) : ∀ n, n ≤ P → RelS (sp_s0 K P su S n) (rs_bld K P seed wN j xsf ouf S1 n) ∧ (∀ i, i < 40 → (sp_s0 K P su S n).2.1 i = 0) ∧ (∀ i, i < 40 → loK (K + P) ((sp_s0 K P su S n).1 i)) := by
  intro n
  induction n with
  | zero =>
    intro _
    refine ⟨RelS.zero S S1, fun i hi => if_pos hi, fun i hi => ?_⟩
    have e : (sp_s0 K P su S 0).1 i = 0 := if_pos hi
    rw [e]; exact loK_0
  | succ n ih =>
    intro hn
    obtain ⟨h1, h2, h3⟩ := ih (by omega)
    have hl := loK_row0 hK hP hu (q := n) (by omega)
    refine ⟨?_, fun i hi => zv_add h2 i hi, fun i hi => loK_add h3 hl i hi⟩
    have a := h1.add (loK_40 hl (by omega)) (zv_contra h2)
    have e : rs_val P j ouf n = 0 := if_neg (by omega)
    show RelS (sp_adds (sp_s0 K P su S n) (sp_row0 K P su n) 0) (rs_adds (rs_bld K P seed wN j xsf ouf S1 n) (rs_rowat K P seed wN j xsf n) (rs_val P j ouf n))
    rw [e, ← eq_row0 hP hu (by omega)]; exact a
/-- a receiver beside the reference's arrays -/
def RelR (K P : Nat) (seed : Int32) (wN : Nat → Nat) (j : Nat) (xsf : Nat → Int32) (ouf : Nat → Int64) (Z : RcT) : Prop :=
  Z.2.2.2.2.1 ≤ 64 ∧ (∀ k, k < Z.2.2.2.2.1 → Z.2.1 k = xsf (64 * j + k) ∧ ¬ xsf (64 * j + k) < 0) ∧ (∀ k, k < Z.2.2.2.2.1 → Z.2.2.1 k = ouf (64 * j + k)) ∧ (∀ q, q < P + Z.2.2.2.2.1 → Z.2.2.2.1 q = rs_rowat K P seed wN j xsf q) ∧ (∀ S1, RelS Z.1 (rs_bld K P seed wN j xsf ouf S1 (P + Z.2.2.2.2.1))) ∧ (∀ i, i < 40 → loK (K + P) (Z.1.1 i)) ∧ Z.1.2.2.1 ≤ P + Z.2.2.2.2.1
theorem RelR.start {K P : Nat} {seed : Int32} {su : Nat → Int64} {wN : Nat → Nat} {j : Nat} {xsf : Nat → Int32} {ouf : Nat → Int64} {Z : RcT} (hK : K ≤ 32) (hP : P ≤ 8) (hu : eq_SU K P seed su) : RelR K P seed wN j xsf ouf (sp_rd0 K P su Z) := by
  refine ⟨Nat.zero_le _, fun k h => absurd h (Nat.not_lt_zero _), fun k h => absurd h (Nat.not_lt_zero _), fun q hq => ?_, fun S1 => ?_, ?_, ?_⟩
  · have hq' : q < P := hq
    show sp_r0 K P su Z.2.2.2.1 P q = _
    rw [eq_r0 P q hq', eq_row0 hP hu hq']
  · exact (RelS.start (S1 := S1) hK hP hu P (Nat.le_refl _)).1
  · exact (RelS.start (seed := seed) (wN := wN) (j := j) (xsf := xsf) (ouf := ouf) (S1 := Z.1) hK hP hu P (Nat.le_refl _)).2.2
  · exact sp_s0_rk K P su Z.1 P
theorem eq_htn {nums xsf : Nat → Int32} {j : Nat} {x : Int32} : ∀ n k, (∀ q, q < k + n → nums q = xsf (64 * j + q)) → sp_htn nums x n k = rs_was xsf j x n k := by
  intro n
  induction n with
  | zero => intro k _; rfl
  | succ n ih =>
    intro k h
    show (if nums k = x then 1 else sp_htn nums x n (k + 1)) = (if xsf (64 * j + k) = x then 1 else rs_was xsf j x n (k + 1))
    rw [h k (by omega), ih (k + 1) (fun q hq => h q (by omega))]
theorem eq_rowat {K P : Nat} {seed : Int32} {wN : Nat → Nat} {j : Nat} {xsf xsf2 : Nat → Int32} {q : Nat} (h : P ≤ q → xsf (64 * j + q - P) = xsf2 (64 * j + q - P)) : rs_rowat K P seed wN j xsf q = rs_rowat K P seed wN j xsf2 q := by
  unfold rs_rowat
  by_cases c : P ≤ q
  · rw [if_pos c, if_pos c, h c]
  · rw [if_neg c, if_neg c]
section
variable {K P : Nat} {seed : Int32} {wN : Nat → Nat} {j : Nat} {xsf : Nat → Int32} {ouf : Nat → Int64} {Z : RcT} {x : Int32} {out : Int64}
/-- the reference's arrays may change elsewhere -/
theorem RelR.frame (h : RelR K P seed wN j xsf ouf Z) {xsf2 : Nat → Int32} {ouf2 : Nat → Int64} (hx : ∀ k, k < 64 → xsf2 (64 * j + k) = xsf (64 * j + k)) (ho : ∀ k, k < 64 → ouf2 (64 * j + k) = ouf (64 * j + k)) : RelR K P seed wN j xsf2 ouf2 Z := by
  obtain ⟨h1, h2, h3, h4, h5, h6, h7⟩ := h
  refine ⟨h1, fun k hk => ?_, fun k hk => ?_, fun q hq => ?_, fun S1 => ?_, h6, h7⟩
  · rw [hx k (by omega)]; exact h2 k hk
  · rw [ho k (by omega)]; exact h3 k hk
  · rw [h4 q hq]
    refine eq_rowat (fun c => ?_)
    have := hx (q - P) (by omega)
    rw [show 64 * j + (q - P) = 64 * j + q - P from by omega] at this
    exact this.symm
  · have e : rs_bld K P seed wN j xsf2 ouf2 S1 (P + Z.2.2.2.2.1) = rs_bld K P seed wN j xsf ouf S1 (P + Z.2.2.2.2.1) := eq_bld _ (fun q c1 c2 => by
      have a := hx (q - P) (by omega)
      have b := ho (q - P) (by omega)
      rw [show 64 * j + (q - P) = 64 * j + q - P from by omega] at a b
      exact ⟨a, b⟩)
    rw [e]; exact h5 S1
theorem RelR.ctr (h : RelR K P seed wN j xsf ouf Z) {row : Int64} : RelR K P seed wN j xsf ouf (sp_ctr Z.1 row out, Z.2) := h
theorem RelR.was (h : RelR K P seed wN j xsf ouf Z) : sp_htn Z.2.1 x Z.2.2.2.2.1 0 = rs_was xsf j x Z.2.2.2.2.1 0 := eq_htn _ _ (fun q hq => (h.2.1 q (by omega)).1)
/-- one more that was taken -/
def sp_acc1 (P : Nat) (row : Int64) (x : Int32) (out : Int64) (Z : RcT) : RcT := (sp_adds Z.1 row out, upd Z.2.1 Z.2.2.2.2.1 x, vp_updL Z.2.2.1 Z.2.2.2.2.1 out, vp_updL Z.2.2.2.1 (P + Z.2.2.2.2.1) row, Z.2.2.2.2.1 + 1, 1)
theorem RelR.grow (h : RelR K P seed wN j xsf ouf Z) (hK1 : 1 ≤ K) (hK : K ≤ 32) (hP : P ≤ 8) (hx : ¬ x < 0) (ht : Z.2.2.2.2.1 < 64) (hc : sp_contra Z.1.1 Z.1.2.1 (rs_row K P seed wN x) out = 0) : RelR K P seed wN j (upd xsf (64 * j + Z.2.2.2.2.1) x) (vp_updL ouf (64 * j + Z.2.2.2.2.1) out) (sp_acc1 P (rs_row K P seed wN x) x out Z) := by
  obtain ⟨h1, h2, h3, h4, h5, h6, h7⟩ := h
  have hl := loK_row (seed := seed) (wN := wN) hK1 hK hP hx
  refine ⟨ht, fun k hk => ?_, fun k hk => ?_, fun q hq => ?_, fun S1 => ?_, fun i hi => ?_, ?_⟩
  · have hk : k < Z.2.2.2.2.1 + 1 := hk
    show upd Z.2.1 Z.2.2.2.2.1 x k = _ ∧ _
    by_cases c : k = Z.2.2.2.2.1
    · rw [c, pk_us, pk_us]; exact ⟨rfl, hx⟩
    · rw [pk_un c, pk_un (by omega)]; exact h2 k (by omega)
  · have hk : k < Z.2.2.2.2.1 + 1 := hk
    show vp_updL Z.2.2.1 Z.2.2.2.2.1 out k = _
    by_cases c : k = Z.2.2.2.2.1
    · rw [c, pk_uLs, pk_uLs]
    · rw [pk_uLn c, pk_uLn (by omega)]; exact h3 k (by omega)
  · have hq : q < P + (Z.2.2.2.2.1 + 1) := hq
    show vp_updL Z.2.2.2.1 (P + Z.2.2.2.2.1) (rs_row K P seed wN x) q = _
    by_cases c : q = P + Z.2.2.2.2.1
    · rw [c, pk_uLs]; unfold rs_rowat
      rw [if_pos (by omega), show 64 * j + (P + Z.2.2.2.2.1) - P = 64 * j + Z.2.2.2.2.1 from by omega, pk_us]
    · rw [pk_uLn c, h4 q (by omega)]
      exact eq_rowat (fun _ => (pk_un (by omega)).symm)
  · have e : rs_bld K P seed wN j (upd xsf (64 * j + Z.2.2.2.2.1) x) (vp_updL ouf (64 * j + Z.2.2.2.2.1) out) S1 (P + Z.2.2.2.2.1) = rs_bld K P seed wN j xsf ouf S1 (P + Z.2.2.2.2.1) := eq_bld _ (fun q c1 c2 => ⟨pk_un (by omega), pk_uLn (by omega)⟩)
    show RelS (sp_adds Z.1 (rs_row K P seed wN x) out) (rs_adds (rs_bld K P seed wN j (upd xsf (64 * j + Z.2.2.2.2.1) x) (vp_updL ouf (64 * j + Z.2.2.2.2.1) out) S1 (P + Z.2.2.2.2.1)) (rs_rowat K P seed wN j (upd xsf (64 * j + Z.2.2.2.2.1) x) (P + Z.2.2.2.2.1)) (rs_val P j (vp_updL ouf (64 * j + Z.2.2.2.2.1) out) (P + Z.2.2.2.2.1)))
    have e2 : rs_rowat K P seed wN j (upd xsf (64 * j + Z.2.2.2.2.1) x) (P + Z.2.2.2.2.1) = rs_row K P seed wN x := by
      unfold rs_rowat
      rw [if_pos (by omega), show 64 * j + (P + Z.2.2.2.2.1) - P = 64 * j + Z.2.2.2.2.1 from by omega, pk_us]
    have e3 : rs_val P j (vp_updL ouf (64 * j + Z.2.2.2.2.1) out) (P + Z.2.2.2.2.1) = out := by
      unfold rs_val
      rw [if_pos (by omega), show 64 * j + (P + Z.2.2.2.2.1) - P = 64 * j + Z.2.2.2.2.1 from by omega, pk_uLs]
    rw [e, e2, e3]
    exact (h5 S1).add (loK_40 hl (by omega)) hc
  · exact loK_add h6 hl i hi
  · show sp_addk Z.1.1 (rs_row K P seed wN x) Z.1.2.2.1 ≤ P + (Z.2.2.2.2.1 + 1)
    unfold sp_addk
    split <;> omega
/-- the four ends of a frame that is whole -/
theorem RelR.acc (h : RelR K P seed wN j xsf ouf Z) (hK1 : 1 ≤ K) (hK : K ≤ 32) (hP : P ≤ 8) (hx : ¬ x < 0) :
    (sp_acc P (rs_row K P seed wN x) x out Z = (-6, Z) ∧ ¬ rs_was xsf j x Z.2.2.2.2.1 0 = 0) ∨
    (sp_acc P (rs_row K P seed wN x) x out Z = (-4, Z) ∧ rs_was xsf j x Z.2.2.2.2.1 0 = 0 ∧ Z.2.2.2.2.1 = 64) ∨
    (sp_acc P (rs_row K P seed wN x) x out Z = (-7, (sp_ctr Z.1 (rs_row K P seed wN x) out, Z.2)) ∧ rs_was xsf j x Z.2.2.2.2.1 0 = 0 ∧ Z.2.2.2.2.1 < 64 ∧ ∀ S1, ¬ rs_contra (rs_bld K P seed wN j xsf ouf S1 (P + Z.2.2.2.2.1)) (rs_row K P seed wN x) out = 0) ∨
    (sp_acc P (rs_row K P seed wN x) x out Z = (nI (sp_acc1 P (rs_row K P seed wN x) x out Z).1.2.2.1, sp_acc1 P (rs_row K P seed wN x) x out Z) ∧ rs_was xsf j x Z.2.2.2.2.1 0 = 0 ∧ Z.2.2.2.2.1 < 64 ∧ (∀ S1, rs_contra (rs_bld K P seed wN j xsf ouf S1 (P + Z.2.2.2.2.1)) (rs_row K P seed wN x) out = 0) ∧ RelR K P seed wN j (upd xsf (64 * j + Z.2.2.2.2.1) x) (vp_updL ouf (64 * j + Z.2.2.2.2.1) out) (sp_acc1 P (rs_row K P seed wN x) x out Z)) := by
  have hw := h.was (x := x)
  have h5 := h.2.2.2.2.1
  have h64 := h.1
  unfold sp_acc
  by_cases c1 : sp_htn Z.2.1 x Z.2.2.2.2.1 0 = 0
  · rw [if_pos c1]
    rw [hw] at c1
    by_cases c2 : Z.2.2.2.2.1 < 64
    · rw [if_pos (show nI Z.2.2.2.2.1 < (64 : Int32) from nI_lt (a := Z.2.2.2.2.1) (b := 64) c2 (by omega))]
      by_cases c3 : sp_contra Z.1.1 Z.1.2.1 (rs_row K P seed wN x) out = 0
      · rw [if_pos c3]
        refine Or.inr (Or.inr (Or.inr ⟨rfl, c1, c2, fun S1 => ?_, h.grow hK1 hK hP hx c2 c3⟩))
        rw [← (h5 S1).contra]; exact c3
      · rw [if_neg c3]
        refine Or.inr (Or.inr (Or.inl ⟨rfl, c1, c2, fun S1 => ?_⟩))
        rw [← (h5 S1).contra]; exact c3
    · rw [if_neg (show ¬ nI Z.2.2.2.2.1 < (64 : Int32) from nI_nlt (a := Z.2.2.2.2.1) (b := 64) (by omega) (by omega))]
      exact Or.inr (Or.inl ⟨rfl, c1, by omega⟩)
  · rw [if_neg c1]
    rw [hw] at c1
    exact Or.inl ⟨rfl, c1⟩
end
