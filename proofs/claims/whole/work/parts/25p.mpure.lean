/-- peeling in the reference -/
def rs_fi (o : Option Nat) : Int32 := match o with
  | none => -1
  | some i => nI i
def rs_mc (K P : Nat) (seed : Int32) (wN : Nat → Nat) (j : Nat) (xsf : Nat → Int32) (op : Int64) (i : Nat) : Nat → Nat
  | 0 => 0
  | q + 1 => if nI (rs_cnt (rs_rowat K P seed wN j xsf q &&& op) 40) ≤ 1 then rs_mc K P seed wN j xsf op i q + 0 else if lg_cmp ((jv_lshr (rs_rowat K P seed wN j xsf q &&& op) (nI i)) &&& 1) 1 = 0 then rs_mc K P seed wN j xsf op i q + 1 else rs_mc K P seed wN j xsf op i q + 0
def rs_mn (K P : Nat) (seed : Int32) (wN : Nat → Nat) (j : Nat) (xsf : Nat → Int32) (op : Int64) (rc i : Nat) : Nat := if lg_cmp ((jv_lshr op (nI i)) &&& 1) 1 = 0 then rs_mc K P seed wN j xsf op i rc else 0
def rs_ms (K P : Nat) (seed : Int32) (wN : Nat → Nat) (j : Nat) (xsf : Nat → Int32) (op : Int64) (rc : Nat) : Nat → Option Nat × Nat
  | 0 => (none, 0)
  | k + 1 => if rs_mn K P seed wN j xsf op rc k ≤ (rs_ms K P seed wN j xsf op rc k).2 then rs_ms K P seed wN j xsf op rc k else (some k, rs_mn K P seed wN j xsf op rc k)
section
variable {K P : Nat} {seed : Int32} {wN : Nat → Nat} {j : Nat} {xsf : Nat → Int32} {op : Int64} {rc k n t q : Nat} {o1 : Option Nat}
theorem rs_ms_a (h : (o1, t) = rs_ms K P seed wN j xsf op rc k) (hn : n = rs_mn K P seed wN j xsf op rc k) (hk : n ≤ t) : (o1, t) = rs_ms K P seed wN j xsf op rc (k + 1) := by
  rw [h]
  refine Eq.symm (if_pos ?_)
  rw [← hn, ← h]; exact hk
theorem rs_ms_b (h : (o1, t) = rs_ms K P seed wN j xsf op rc k) (hn : n = rs_mn K P seed wN j xsf op rc k) (hk : ¬ n ≤ t) : (some k, n) = rs_ms K P seed wN j xsf op rc (k + 1) := by
  rw [hn]
  refine Eq.symm (if_neg ?_)
  rw [← hn, ← h]; exact hk
theorem rs_mn_a (hn : n = rs_mc K P seed wN j xsf op k q) (hq : q = rc) (hb : q = 0 ∨ lg_cmp ((jv_lshr op (nI k)) &&& 1) 1 = 0) : n = rs_mn K P seed wN j xsf op rc k := by
  unfold rs_mn
  by_cases h : lg_cmp ((jv_lshr op (nI k)) &&& 1) 1 = 0
  · rw [if_pos h, ← hq]; exact hn
  · rcases hb with e | e
    · rw [if_neg h, hn, e]; rfl
    · exact absurd e h
theorem rs_mn_b (hn : n = rs_mc K P seed wN j xsf op k q) (hb : q = 0 ∨ lg_cmp ((jv_lshr op (nI k)) &&& 1) 1 = 0) (h : ¬ lg_cmp ((jv_lshr op (nI k)) &&& 1) 1 = 0) : n = rs_mn K P seed wN j xsf op rc k := by
  unfold rs_mn
  rcases hb with e | e
  · rw [if_neg h, hn, e]; rfl
  · exact absurd e h
theorem rs_ms_some {KP : Nat} (hKP : KP ≤ 40) (h : ¬ rs_fi (rs_ms K P seed wN j xsf op rc KP).1 < 0) : ∃ i, (rs_ms K P seed wN j xsf op rc KP).1 = some i ∧ i < 40 ∧ ¬ sp_bit op (nI i) = 0 := by
  have key : ∀ k, k ≤ 40 → ∀ i, (rs_ms K P seed wN j xsf op rc k).1 = some i → i < k ∧ gb op i = true := by
    intro k
    induction k with
    | zero => intro _ i h; cases h
    | succ k ih =>
      intro hk i h
      have e : rs_ms K P seed wN j xsf op rc (k + 1) = if rs_mn K P seed wN j xsf op rc k ≤ (rs_ms K P seed wN j xsf op rc k).2 then rs_ms K P seed wN j xsf op rc k else (some k, rs_mn K P seed wN j xsf op rc k) := rfl
      rw [e] at h
      by_cases h1 : rs_mn K P seed wN j xsf op rc k ≤ (rs_ms K P seed wN j xsf op rc k).2
      · rw [if_pos h1] at h
        obtain ⟨a, b⟩ := ih (by omega) i h
        exact ⟨by omega, b⟩
      · rw [if_neg h1] at h
        have e2 : k = i := Option.some.inj h
        subst e2
        refine ⟨by omega, ?_⟩
        apply Classical.byContradiction
        intro hb
        apply h1
        unfold rs_mn
        rw [if_neg (mt (gb_t1 op (by omega)).mp hb)]
        exact Nat.zero_le _
  cases e : (rs_ms K P seed wN j xsf op rc KP).1 with
  | none => rw [e] at h; exact absurd (by decide : (-1 : Int32) < 0) h
  | some i =>
    obtain ⟨a, b⟩ := key KP hKP i e
    exact ⟨i, rfl, by omega, fun q => by rw [(gb_bit op (by omega)).mp q] at b; cases b⟩
theorem rs_ms_none {KP : Nat} (hKP : KP ≤ 40) (h : rs_fi (rs_ms K P seed wN j xsf op rc KP).1 < 0) : (rs_ms K P seed wN j xsf op rc KP).1 = none := by
  have key : ∀ k, k ≤ 40 → ∀ i, (rs_ms K P seed wN j xsf op rc k).1 = some i → i < k := by
    intro k
    induction k with
    | zero => intro _ i h; cases h
    | succ k ih =>
      intro hk i h
      have e : rs_ms K P seed wN j xsf op rc (k + 1) = if rs_mn K P seed wN j xsf op rc k ≤ (rs_ms K P seed wN j xsf op rc k).2 then rs_ms K P seed wN j xsf op rc k else (some k, rs_mn K P seed wN j xsf op rc k) := rfl
      rw [e] at h
      by_cases h1 : rs_mn K P seed wN j xsf op rc k ≤ (rs_ms K P seed wN j xsf op rc k).2
      · rw [if_pos h1] at h
        have := ih (by omega) i h
        omega
      · rw [if_neg h1] at h
        have e2 : k = i := Option.some.inj h
        omega
  cases e : (rs_ms K P seed wN j xsf op rc KP).1 with
  | none => rfl
  | some i =>
    rw [e] at h
    have := key KP hKP i e
    exact absurd h (nI_pos (by omega))
end
def rs_clr (f : Nat → Int32) (k : Nat) : Nat → Int32 := fun q => if q < k then 0 else f q
theorem rs_clr_0 (f : Nat → Int32) : rs_clr f 0 = f := by
  funext q; unfold rs_clr; rw [if_neg (by omega)]
theorem rs_clr_s (f : Nat → Int32) (k : Nat) : upd (rs_clr f k) k 0 = rs_clr f (k + 1) := by
  funext q
  unfold upd rs_clr
  by_cases h : q = k
  · rw [if_pos h, if_pos (by omega)]
  · rw [if_neg h]
    by_cases h2 : q < k
    · rw [if_pos h2, if_pos (by omega)]
    · rw [if_neg h2, if_neg (by omega)]
def rs_fk (K P : Nat) (seed : Int32) (wN : Nat → Nat) (j : Nat) (xsf : Nat → Int32) (op : Int64) : Nat → Nat → Nat
  | 0, k => k
  | n + 1, k => if nI (rs_cnt (rs_rowat K P seed wN j xsf k &&& op) 40) = 1 then k else rs_fk K P seed wN j xsf op n (k + 1)
/-- the part that goes next, and what becomes of it -/
def rs_found (K P : Nat) (seed : Int32) (wN : Nat → Nat) (j : Nat) (xsf : Nat → Int32) (rc : Nat) (op : Int64) : Option (Nat × Int32) :=
  if rs_fk K P seed wN j xsf op rc 0 < rc then some (rs_lo (rs_rowat K P seed wN j xsf (rs_fk K P seed wN j xsf op rc 0) &&& op) 40 0, 1) else (rs_ms K P seed wN j xsf op rc (K + P)).1.map (fun i => (i, 2))
def rs_pl (K P : Nat) (seed : Int32) (wN : Nat → Nat) (j : Nat) (xsf : Nat → Int32) (rc : Nat) : Nat → Int64 → (Nat → Int32) → (Nat → Int32)
  | 0, _, f => f
  | n + 1, op, f => match rs_found K P seed wN j xsf rc op with
    | none => f
    | some q => rs_pl K P seed wN j xsf rc n (op &&& (jv_lshl 1 (nI q.1) ^^^ (-1))) (upd f q.1 q.2)
section
variable {K P : Nat} {seed : Int32} {wN : Nat → Nat} {j : Nat} {xsf : Nat → Int32} {op : Int64} {rc q i it : Nat} {st : Int32} {f : Nat → Int32}
theorem rs_found_a {lo : Nat} (h : rs_fk K P seed wN j xsf op rc 0 = q) (hq : q < rc) (hl : rs_lo (rs_rowat K P seed wN j xsf q &&& op) 40 0 = lo) : rs_found K P seed wN j xsf rc op = some (lo, 1) := by
  unfold rs_found
  rw [h, if_pos hq, hl]
theorem rs_found_b (h : rs_fk K P seed wN j xsf op rc 0 = rc) (hi : (rs_ms K P seed wN j xsf op rc (K + P)).1 = some i) : rs_found K P seed wN j xsf rc op = some (i, 2) := by
  unfold rs_found
  rw [h, if_neg (by omega), hi]; rfl
theorem rs_found_n (hKP : K + P ≤ 40) (h : rs_fk K P seed wN j xsf op rc 0 = rc) (hn : rs_fi (rs_ms K P seed wN j xsf op rc (K + P)).1 < 0) : rs_found K P seed wN j xsf rc op = none := by
  unfold rs_found
  rw [h, if_neg (by omega), rs_ms_none hKP hn]; rfl
theorem rs_pl_s (h : rs_found K P seed wN j xsf rc op = some (i, st)) (hit : it ≤ 40) : rs_pl K P seed wN j xsf rc (41 - it) op f = (if (1 : Int32) = 0 then upd f i st else rs_pl K P seed wN j xsf rc (41 - (it + 1)) (op &&& (jv_lshl 1 (nI i) ^^^ (-1))) (upd f i st)) := by
  rw [if_neg (by decide), show 41 - it = (41 - (it + 1)) + 1 from by omega]
  show (match rs_found K P seed wN j xsf rc op with | none => f | some q => _) = _
  rw [h]
theorem rs_pl_n {op2 : Int64} (h : rs_found K P seed wN j xsf rc op = none) (hit : it ≤ 40) : rs_pl K P seed wN j xsf rc (41 - it) op f = (if (0 : Int32) = 0 then f else rs_pl K P seed wN j xsf rc (41 - (it + 1)) op2 f) := by
  rw [if_pos rfl, show 41 - it = (41 - (it + 1)) + 1 from by omega]
  show (match rs_found K P seed wN j xsf rc op with | none => f | some q => _) = _
  rw [h]
end
theorem rs_b_gb {v : Int64} {k : Nat} (hk : k < 64) : rs_b v k = if gb v k = true then 1 else 0 := by
  unfold rs_b
  have a := gb_t0 v hk
  have b := gb_t1 v hk
  rw [lg_cmp0] at a b
  by_cases h : gb v k = true
  · rw [if_pos h, b.mpr h]; rfl
  · rw [if_neg h, a.mpr (gb_nf h)]; rfl
theorem rs_cnt_0 {v : Int64} : ∀ n, n ≤ 64 → (∀ i, i < n → gb v i = false) → rs_cnt v n = 0 := by
  intro n
  induction n with
  | zero => intro _ _; rfl
  | succ n ih =>
    intro hn h
    show rs_cnt v n + rs_b v n = 0
    rw [ih (by omega) (fun i hi => h i (by omega)), rs_b_gb (by omega), h n (by omega)]; rfl
theorem rs_lo_find {v : Int64} : ∀ n i p, i + n ≤ 64 → i ≤ p → p < i + n → gb v p = true → rs_lo v n i ≤ p := by
  intro n
  induction n with
  | zero => intro i p _ h1 h2; omega
  | succ n ih =>
    intro i p hn h1 h2 hp
    show (if lg_cmp ((jv_lshr v (nI i)) &&& 1) 0 = 0 then rs_lo v n (i + 1) else i) ≤ p
    by_cases h : gb v i = false
    · rw [if_pos ((gb_t0 v (by omega)).mpr h)]
      refine ih (i + 1) p (by omega) ?_ (by omega) hp
      rcases Nat.lt_or_ge i p with c | c
      · exact c
      · have : i = p := by omega
        subst this
        rw [h] at hp; cases hp
    · rw [if_neg (mt (gb_t0 v (by omega)).mp h)]; exact h1
theorem rs_lo_cnt {v : Int64} (h : nI (rs_cnt v 40) = 1) : rs_lo v 40 0 < 40 := by
  have hex : ∃ p, p < 40 ∧ gb v p = true := by
    apply Classical.byContradiction
    intro hn
    have := rs_cnt_0 (v := v) 40 (by omega) (fun i hi => gb_nf (fun e => hn ⟨i, hi, e⟩))
    rw [this] at h
    exact absurd h (by decide)
  obtain ⟨p, hp, hg⟩ := hex
  have := rs_lo_find (v := v) 40 0 p (by omega) (by omega) (by omega) hg
  omega
theorem rs_lo_in {v : Int64} {f r : Nat} (hf : f ≤ 40) (h : rs_lo v (40 - f) f = r) (hr : r < 40) : f < 40 := by
  rcases Nat.lt_or_ge f 40 with c | c
  · exact c
  · rw [show 40 - f = 0 from by omega] at h
    have e : f = r := h
    omega
theorem rs_bit_and {a op : Int64} {f : Nat} (hf : f < 64) (h : ¬ lg_cmp ((jv_lshr (a &&& op) (nI f)) &&& 1) 0 = 0) : ¬ sp_bit op (nI f) = 0 := fun q => by
  apply h
  rw [gb_t0 _ hf, gb_and, (gb_bit op hf).mp q, Bool.and_false]
theorem rs_ones_tn : ∀ KP, KP < 41 → (jv_lshl 1 (nI KP) - 1).toBitVec.toNat = 2 ^ KP - 1 := by decide +kernel
theorem gb_ones {KP : Nat} (h : KP ≤ 40) (i : Nat) : gb (jv_lshl 1 (nI KP) - 1) i = decide (i < KP) := by
  unfold gb
  rw [← BitVec.testBit_toNat, rs_ones_tn KP (by omega), Nat.testBit_two_pow_sub_one]
theorem rs_cb_le {y : Int64} {KP : Nat} (h : ∀ i, i < 64 → gb y i = decide (i < KP)) : ∀ n, n ≤ 64 → rs_cb y n = if n ≤ KP then n else KP := by
  intro n
  induction n with
  | zero => intro _; rw [if_pos (Nat.zero_le _)]; rfl
  | succ n ih =>
    intro hn
    show (if sp_bit y (nI n) = 0 then rs_cb y n else rs_cb y n + 1) = _
    rw [ih (by omega)]
    by_cases c : n < KP
    · rw [if_neg (mt (gb_bit y (by omega)).mp (by rw [h n (by omega), decide_eq_true c]; decide)), if_pos (by omega), if_pos (by omega)]
    · rw [if_pos ((gb_bit y (by omega)).mpr (by rw [h n (by omega), decide_eq_false c])), if_neg (by omega : ¬ n + 1 ≤ KP)]
      split <;> omega
theorem rs_full {KP : Nat} (h : KP ≤ 40) : rs_cb (jv_lshl 1 (nI KP) - 1) 40 + 0 = KP := by
  rw [rs_cb_le (fun i _ => gb_ones h i) 40 (by omega)]
  split <;> omega
theorem rs_cb_clr {y : Int64} {i : Nat} (hi : i < 64) (h1 : gb y i = true) : ∀ n, n ≤ 64 → rs_cb (y &&& (jv_lshl 1 (nI i) ^^^ (-1))) n + (if i < n then 1 else 0) = rs_cb y n := by
  intro n
  induction n with
  | zero => intro _; rfl
  | succ n ih =>
    intro hn
    have e0 := ih (by omega)
    show (if sp_bit (y &&& (jv_lshl 1 (nI i) ^^^ (-1))) (nI n) = 0 then rs_cb (y &&& (jv_lshl 1 (nI i) ^^^ (-1))) n else rs_cb (y &&& (jv_lshl 1 (nI i) ^^^ (-1))) n + 1) + _ = (if sp_bit y (nI n) = 0 then rs_cb y n else rs_cb y n + 1)
    have e : gb (y &&& (jv_lshl 1 (nI i) ^^^ (-1))) n = (gb y n && !decide (n = i)) := by
      rw [gb_and, gb_xor, gb_lshl1 hi (by omega), gb_m1 (by omega), Bool.xor_true]
    by_cases h2 : n = i
    · subst h2
      rw [if_pos ((gb_bit _ hi).mpr (by rw [e]; simp)), if_neg (mt (gb_bit _ hi).mp (by rw [h1]; decide)), if_pos (by omega)]
      rw [if_neg (by omega)] at e0
      omega
    · have hc : (if i < n + 1 then 1 else 0) = (if i < n then 1 else 0) := by
        by_cases h3 : i < n
        · rw [if_pos h3, if_pos (by omega)]
        · rw [if_neg h3, if_neg (by omega)]
      rw [hc]
      by_cases h3 : gb y n = false
      · rw [if_pos ((gb_bit _ (by omega)).mpr (by rw [e, h3]; rfl)), if_pos ((gb_bit _ (by omega)).mpr h3)]; exact e0
      · rw [if_neg (mt (gb_bit _ (by omega)).mp (by rw [e, gb_nt h3, decide_eq_false h2]; decide)), if_neg (mt (gb_bit _ (by omega)).mp h3)]
        omega
theorem rs_cb_del {op : Int64} {i it KP : Nat} (hb : ¬ sp_bit op (nI i) = 0) (hi : i < 40) (h : rs_cb op 40 + it = KP) : rs_cb (op &&& (jv_lshl 1 (nI i) ^^^ (-1))) 40 + (it + 1) = KP := by
  have e := rs_cb_clr (y := op) (by omega) (gb_nt (mt (gb_bit op (by omega)).mpr hb)) 40 (by omega)
  rw [if_pos hi] at e
  omega
