/-! peeling, in both -/
theorem cnt_mono {v : Int64} (m : Nat) : ∀ n, rs_cnt v m ≤ rs_cnt v (m + n) := by
  intro n
  induction n with
  | zero => exact Nat.le_refl _
  | succ n ih => exact Nat.le_trans ih (Nat.le_add_right _ _)
theorem cnt_s1 {v : Int64} {p : Nat} (hp : p < 64) (h : gb v p = true) : rs_cnt v (p + 1) = rs_cnt v p + 1 := by
  show rs_cnt v p + rs_b v p = _
  rw [rs_b_gb hp, if_pos h]
theorem cnt_pos {v : Int64} {p n : Nat} (hp : p < n) (hn : n ≤ 64) (h : gb v p = true) : 1 ≤ rs_cnt v n := by
  have a := cnt_s1 (by omega) h
  have b := cnt_mono (v := v) (p + 1) (n - (p + 1))
  rw [show p + 1 + (n - (p + 1)) = n from by omega] at b
  omega
theorem cnt_two {v : Int64} {p q n : Nat} (hp : p < q) (hq : q < n) (hn : n ≤ 64) (h : gb v p = true) (h2 : gb v q = true) : 2 ≤ rs_cnt v n := by
  have a := cnt_s1 (p := q) (by omega) h2
  have c := cnt_pos hp (by omega) h
  have b := cnt_mono (v := v) (q + 1) (n - (q + 1))
  rw [show q + 1 + (n - (q + 1)) = n from by omega] at b
  omega
theorem cnt_le {v : Int64} : ∀ n, n ≤ 64 → rs_cnt v n ≤ n := by
  intro n
  induction n with
  | zero => intro _; exact Nat.le_refl _
  | succ n ih =>
    intro hn
    show rs_cnt v n + rs_b v n ≤ n + 1
    have := ih (by omega)
    rw [rs_b_gb (by omega)]
    split <;> omega
/-- a mask of one bit -/
theorem one_bit {v : Int64} (hl : lo40 v) (h : rs_cnt v 40 = 1) : v = jv_lshl 1 (nI (rs_lo v 40 0)) ∧ rs_lo v 40 0 < 40 ∧ gb v (rs_lo v 40 0) = true := by
  have hlt : rs_lo v 40 0 < 40 := rs_lo_cnt (by rw [h]; rfl)
  obtain ⟨s1, s2⟩ := rlo_spec (x := v) 40 0 (by omega)
  have hb := s2 (by omega)
  refine ⟨?_, hlt, hb⟩
  apply gb_ext
  intro i hi
  rw [gb_lshl1 (by omega) hi]
  by_cases c : i = rs_lo v 40 0
  · rw [decide_eq_true c, c]; exact hb
  · rw [decide_eq_false c]
    by_cases d : i < 40
    · apply gb_nf
      intro q
      rcases Nat.lt_or_ge i (rs_lo v 40 0) with e | e
      · have := cnt_two e hlt (by omega) q hb; omega
      · have := cnt_two (show rs_lo v 40 0 < i by omega) d (by omega) hb q; omega
    · exact hl i (by omega) hi
section
variable {K P : Nat} {seed : Int32} {wN : Nat → Nat} {j : Nat} {xsf : Nat → Int32} {rows : Nat → Int64} {op : Int64} {rc : Nat}
theorem lo40_and {x : Int64} (h : lo40 op) : lo40 (x &&& op) := fun i h1 h2 => by rw [gb_and, h i h1 h2, Bool.and_false]
theorem pl_only (hr : ∀ q, q < rc → rows q = rs_rowat K P seed wN j xsf q) (ho : lo40 op) : ∀ m k, k + m ≤ rc →
    (rs_fk K P seed wN j xsf op m k = k + m ∧ sp_only rows op m k = 0 ∧ ∀ q, k ≤ q → q < k + m → ¬ rs_cnt (rs_rowat K P seed wN j xsf q &&& op) 40 = 1) ∨
    (rs_fk K P seed wN j xsf op m k < k + m ∧ rs_cnt (rs_rowat K P seed wN j xsf (rs_fk K P seed wN j xsf op m k) &&& op) 40 = 1 ∧ sp_only rows op m k = rs_rowat K P seed wN j xsf (rs_fk K P seed wN j xsf op m k) &&& op) := by
  intro m
  induction m with
  | zero => intro k _; exact Or.inl ⟨rfl, rfl, fun q h1 h2 => by omega⟩
  | succ m ih =>
    intro k hk
    have e1 : rs_fk K P seed wN j xsf op (m + 1) k = if nI (rs_cnt (rs_rowat K P seed wN j xsf k &&& op) 40) = 1 then k else rs_fk K P seed wN j xsf op m (k + 1) := rfl
    have e2 : sp_only rows op (m + 1) k = if sp_bc (rows k &&& op) = 1 then rows k &&& op else sp_only rows op m (k + 1) := rfl
    rw [e1, e2, hr k (by omega), eq_bc (lo40_and ho)]
    have hc := cnt_le (v := rs_rowat K P seed wN j xsf k &&& op) 40 (by omega)
    by_cases c : rs_cnt (rs_rowat K P seed wN j xsf k &&& op) 40 = 1
    · rw [if_pos (by rw [c]; rfl), if_pos (by rw [c]; rfl)]
      exact Or.inr ⟨by omega, c, rfl⟩
    · have c' : ¬ nI (rs_cnt (rs_rowat K P seed wN j xsf k &&& op) 40) = 1 := fun q => c ((nI_eq (a := _) (b := 1) (by omega) (by omega)).mp q)
      rw [if_neg c', if_neg c']
      rcases ih (k + 1) (by omega) with ⟨a, b, d⟩ | ⟨a, b, d⟩
      · refine Or.inl ⟨by rw [a]; omega, b, fun q h1 h2 => ?_⟩
        by_cases e : q = k
        · rw [e]; exact c
        · exact d q (by omega) (by omega)
      · exact Or.inr ⟨by omega, b, d⟩
theorem pl_crw (hr : ∀ q, q < rc → rows q = rs_rowat K P seed wN j xsf q) (hn : ∀ q, q < rc → ¬ rs_cnt (rs_rowat K P seed wN j xsf q &&& op) 40 = 1) {k : Nat} (hk : k < 40) (hb : gb op k = true) : ∀ n, n ≤ rc → sp_crw rows (nI k) n = rs_mc K P seed wN j xsf op k n := by
  intro n
  induction n with
  | zero => intro _; rfl
  | succ n ih =>
    intro h
    have e1 : sp_crw rows (nI k) (n + 1) = if sp_bit (rows n) (nI k) = 0 then sp_crw rows (nI k) n else sp_crw rows (nI k) n + 1 := rfl
    have e2 : rs_mc K P seed wN j xsf op k (n + 1) = if nI (rs_cnt (rs_rowat K P seed wN j xsf n &&& op) 40) ≤ 1 then rs_mc K P seed wN j xsf op k n + 0 else if lg_cmp ((jv_lshr (rs_rowat K P seed wN j xsf n &&& op) (nI k)) &&& 1) 1 = 0 then rs_mc K P seed wN j xsf op k n + 1 else rs_mc K P seed wN j xsf op k n + 0 := rfl
    rw [e1, e2, hr n (by omega), ih (by omega)]
    have hc := cnt_le (v := rs_rowat K P seed wN j xsf n &&& op) 40 (by omega)
    by_cases c : gb (rs_rowat K P seed wN j xsf n) k = true
    · have g : gb (rs_rowat K P seed wN j xsf n &&& op) k = true := by rw [gb_and, c, hb]; rfl
      have c1 := cnt_pos hk (by omega) g
      have c2 := hn n (by omega)
      rw [if_neg (eq_bit1 (by omega) c), if_neg (show ¬ nI (rs_cnt (rs_rowat K P seed wN j xsf n &&& op) 40) ≤ (1 : Int32) from nI_ge (a := 1) (by omega) (by omega)), if_pos ((gb_t1 _ (by omega)).mpr g)]
    · have g : ¬ gb (rs_rowat K P seed wN j xsf n &&& op) k = true := by rw [gb_and, gb_nf c, Bool.false_and]; decide
      rw [if_pos (eq_bit0 (by omega) (gb_nf c)), if_neg (mt (gb_t1 _ (by omega)).mp g)]
      split <;> rfl
theorem pl_cc (hr : ∀ q, q < rc → rows q = rs_rowat K P seed wN j xsf q) (hn : ∀ q, q < rc → ¬ rs_cnt (rs_rowat K P seed wN j xsf q &&& op) 40 = 1) {k : Nat} (hk : k < 40) : sp_cc rows op rc k = rs_mn K P seed wN j xsf op rc k := by
  unfold sp_cc rs_mn
  by_cases c : gb op k = true
  · rw [if_neg (eq_bit1 (by omega) c), if_pos ((gb_t1 _ (by omega)).mpr c)]; exact pl_crw hr hn hk c rc (Nat.le_refl _)
  · rw [if_pos (eq_bit0 (by omega) (gb_nf c)), if_neg (mt (gb_t1 _ (by omega)).mp c)]
def pl_m (o : Option Nat) : Int64 := match o with
  | none => 0
  | some i => jv_lshl 1 (nI i)
theorem pl_ms (hr : ∀ q, q < rc → rows q = rs_rowat K P seed wN j xsf q) (hn : ∀ q, q < rc → ¬ rs_cnt (rs_rowat K P seed wN j xsf q &&& op) 40 = 1) : ∀ k, k ≤ 40 → sp_ms rows op rc k = (pl_m (rs_ms K P seed wN j xsf op rc k).1, (rs_ms K P seed wN j xsf op rc k).2) ∧ ∀ i, (rs_ms K P seed wN j xsf op rc k).1 = some i → i < k ∧ gb op i = true := by
  intro k
  induction k with
  | zero => intro _; exact ⟨rfl, fun i h => by cases h⟩
  | succ k ih =>
    intro hk
    obtain ⟨a, b⟩ := ih (by omega)
    have e1 : sp_ms rows op rc (k + 1) = if sp_cc rows op rc k ≤ (sp_ms rows op rc k).2 then sp_ms rows op rc k else (jv_lshl 1 (nI k), sp_cc rows op rc k) := rfl
    have e2 : rs_ms K P seed wN j xsf op rc (k + 1) = if rs_mn K P seed wN j xsf op rc k ≤ (rs_ms K P seed wN j xsf op rc k).2 then rs_ms K P seed wN j xsf op rc k else (some k, rs_mn K P seed wN j xsf op rc k) := rfl
    rw [e1, e2, pl_cc hr hn (by omega), a]
    by_cases c : rs_mn K P seed wN j xsf op rc k ≤ (rs_ms K P seed wN j xsf op rc k).2
    · rw [if_pos c, if_pos c]
      exact ⟨rfl, fun i h => ⟨by have := (b i h).1; omega, (b i h).2⟩⟩
    · rw [if_neg c, if_neg c]
      refine ⟨rfl, fun i h => ?_⟩
      have e : k = i := Option.some.inj h
      subst e
      refine ⟨by omega, ?_⟩
      apply Classical.byContradiction
      intro q
      apply c
      unfold rs_mn
      rw [if_neg (mt (gb_t1 _ (by omega)).mp q)]
      exact Nat.zero_le _
/-- masks of the class beside the reference's states -/
def RelM (KP : Nat) (s : Int64 × Int64 × Int64) (f : Nat → Int32) : Prop := (∀ i, i < 40 → f i = if gb s.2.1 i = true then 1 else if gb s.2.2 i = true then 2 else 0) ∧ (∀ i, i < 64 → gb s.1 i = (decide (i < KP) && (!gb s.2.1 i && !gb s.2.2 i))) ∧ loK KP s.2.1 ∧ loK KP s.2.2 ∧ ∀ i, i < 64 → gb s.2.1 i = true → gb s.2.2 i = false
theorem RelM.opl {KP : Nat} {s : Int64 × Int64 × Int64} {f : Nat → Int32} (h : RelM KP s f) (h4 : KP ≤ 40) : lo40 s.1 := fun i h1 h2 => by
  rw [h.2.1 i h2, decide_eq_false (by omega)]; rfl
theorem RelM.cut {KP : Nat} {s : Int64 × Int64 × Int64} {f : Nat → Int32} (h : RelM KP s f) (h4 : KP ≤ 40) {i : Nat} (hi : i < 40) (hb : gb s.1 i = true) : i < KP ∧ RelM KP (s.1 &&& (jv_lshl 1 (nI i) ^^^ (-1)), s.2.1 ||| jv_lshl 1 (nI i), s.2.2) (upd f i 1) ∧ RelM KP (s.1 &&& (jv_lshl 1 (nI i) ^^^ (-1)), s.2.1, s.2.2 ||| jv_lshl 1 (nI i)) (upd f i 2) := by
  obtain ⟨a, b, c, d, dis⟩ := h
  have e := b i (by omega)
  rw [hb] at e
  have hK : i < KP := by
    rcases Nat.lt_or_ge i KP with q | q
    · exact q
    · rw [decide_eq_false (by omega)] at e; cases e
  rw [decide_eq_true hK] at e
  have e1 : gb s.2.1 i = false := by
    cases q : gb s.2.1 i
    · rfl
    · rw [q] at e; cases e
  have e2 : gb s.2.2 i = false := by
    cases q : gb s.2.2 i
    · rfl
    · rw [q, e1] at e; cases e
  have hm : ∀ k, k < 64 → gb (s.1 &&& (jv_lshl 1 (nI i) ^^^ (-1))) k = (gb s.1 k && !decide (k = i)) := fun k hk => by
    rw [gb_and, gb_xor, gb_lshl1 (by omega) hk, gb_m1 hk, Bool.xor_true]
  refine ⟨hK, ⟨fun k hk => ?_, fun k hk => ?_, loK_or c (loK_1 hK h4), d, fun k hk q => ?_⟩, ⟨fun k hk => ?_, fun k hk => ?_, c, loK_or d (loK_1 hK h4), fun k hk q => ?_⟩⟩
  · show upd f i 1 k = if gb (s.2.1 ||| jv_lshl 1 (nI i)) k = true then 1 else if gb s.2.2 k = true then 2 else 0
    rw [gb_or, gb_lshl1 (by omega) (by omega)]
    by_cases q : k = i
    · subst q; rw [pk_us, decide_eq_true rfl, Bool.or_true]; rfl
    · rw [pk_un q, decide_eq_false q, Bool.or_false]; exact a k hk
  · show gb (s.1 &&& (jv_lshl 1 (nI i) ^^^ (-1))) k = (decide (k < KP) && (!gb (s.2.1 ||| jv_lshl 1 (nI i)) k && !gb s.2.2 k))
    rw [hm k hk, b k hk, gb_or, gb_lshl1 (by omega) hk]
    by_cases q : k = i
    · subst q; rw [decide_eq_true rfl]; simp
    · rw [decide_eq_false q]; simp
  · have q : gb (s.2.1 ||| jv_lshl 1 (nI i)) k = true := q
    show gb s.2.2 k = false
    rw [gb_or, gb_lshl1 (by omega) hk] at q
    by_cases z : k = i
    · rw [z]; exact e2
    · rw [decide_eq_false z, Bool.or_false] at q; exact dis k hk q
  · show upd f i 2 k = if gb s.2.1 k = true then 1 else if gb (s.2.2 ||| jv_lshl 1 (nI i)) k = true then 2 else 0
    rw [gb_or, gb_lshl1 (by omega) (by omega)]
    by_cases q : k = i
    · subst q; rw [pk_us, e1, decide_eq_true rfl, Bool.or_true]; rfl
    · rw [pk_un q, decide_eq_false q, Bool.or_false]; exact a k hk
  · show gb (s.1 &&& (jv_lshl 1 (nI i) ^^^ (-1))) k = (decide (k < KP) && (!gb s.2.1 k && !gb (s.2.2 ||| jv_lshl 1 (nI i)) k))
    rw [hm k hk, b k hk, gb_or, gb_lshl1 (by omega) hk]
    by_cases q : k = i
    · subst q; rw [decide_eq_true rfl]; simp
    · rw [decide_eq_false q]; simp
  · have q : gb s.2.1 k = true := q
    show gb (s.2.2 ||| jv_lshl 1 (nI i)) k = false
    rw [gb_or, gb_lshl1 (by omega) hk]
    by_cases z : k = i
    · rw [z, e1] at q; cases q
    · rw [decide_eq_false z, Bool.or_false]; exact dis k hk q
theorem pl_stop {KP : Nat} (h4 : K + P = KP) (h40 : KP ≤ 40) (hz : ∀ i, i < 40 → gb op i = false) (ho : lo40 op) : rs_found K P seed wN j xsf rc op = none := by
  have o0 : op = 0 := gb_ext (fun i hi => by
    rw [gb_0]
    by_cases c : i < 40
    · exact hz i c
    · exact ho i (by omega) hi)
  have hn : ∀ q, ¬ rs_cnt (rs_rowat K P seed wN j xsf q &&& op) 40 = 1 := fun q e => by
    have := rs_cnt_0 (v := rs_rowat K P seed wN j xsf q &&& op) 40 (by omega) (fun i hi => by rw [gb_and, hz i hi, Bool.and_false])
    omega
  have hf : rs_fk K P seed wN j xsf op rc 0 = rc := by
    rcases pl_only (rows := rs_rowat K P seed wN j xsf) (rc := rc) (fun _ _ => rfl) ho rc 0 (by omega) with ⟨a, -, -⟩ | ⟨-, b, -⟩
    · rw [a]; omega
    · exact absurd b (hn _)
  obtain ⟨-, b⟩ := pl_ms (rows := rs_rowat K P seed wN j xsf) (rc := rc) (op := op) (fun _ _ => rfl) (fun q _ => hn q) (K + P) (by omega)
  unfold rs_found
  rw [hf, if_neg (by omega)]
  cases e : (rs_ms K P seed wN j xsf op rc (K + P)).1 with
  | none => rfl
  | some i =>
    have := (b i e)
    rw [hz i (by omega)] at this
    cases this.2
theorem cb_pos {y : Int64} : ∀ n, n ≤ 64 → rs_cb y n = 0 → ∀ i, i < n → gb y i = false := by
  intro n
  induction n with
  | zero => intro _ _ i hi; omega
  | succ n ih =>
    intro hn h i hi
    have h : (if sp_bit y (nI n) = 0 then rs_cb y n else rs_cb y n + 1) = 0 := h
    by_cases c : sp_bit y (nI n) = 0
    · rw [if_pos c] at h
      by_cases e : i = n
      · rw [e]; exact (gb_bit y (by omega)).mp c
      · exact ih (by omega) h i (by omega)
    · rw [if_neg c] at h; omega
theorem pl_run {KP : Nat} (hKP : K + P = KP) (h40 : KP ≤ 40) (hr : ∀ q, q < rc → rows q = rs_rowat K P seed wN j xsf q) : ∀ n c s f, RelM KP s f → rs_cb s.1 40 ≤ n → RelM KP (sp_run rows rc KP n s) (rs_pl K P seed wN j xsf rc (n + c) s.1 f) := by
  intro n
  induction n with
  | zero =>
    intro c s f h hc
    have ef := pl_stop (seed := seed) (wN := wN) (j := j) (xsf := xsf) (rc := rc) hKP h40 (cb_pos (y := s.1) 40 (by omega) (by omega)) (h.opl h40)
    have e : rs_pl K P seed wN j xsf rc (0 + c) s.1 f = f := by
      rw [Nat.zero_add]
      cases c with
      | zero => rfl
      | succ c =>
        show (match rs_found K P seed wN j xsf rc s.1 with | none => f | some q => _) = f
        rw [ef]
    rw [e]; exact h
  | succ n ih =>
    intro c s f h hc
    have ho := h.opl h40
    have e1 : sp_run rows rc KP (n + 1) s = if lg_cmp (sp_only rows s.1 rc 0) 0 = 0 then (if lg_cmp (sp_ms rows s.1 rc KP).1 0 = 0 then (s.1, s.2.1, s.2.2 ||| (sp_ms rows s.1 rc KP).1) else sp_run rows rc KP n (s.1 &&& ((sp_ms rows s.1 rc KP).1 ^^^ (-1)), s.2.1, s.2.2 ||| (sp_ms rows s.1 rc KP).1)) else sp_run rows rc KP n (s.1 &&& (sp_only rows s.1 rc 0 ^^^ (-1)), s.2.1 ||| sp_only rows s.1 rc 0, s.2.2) := rfl
    have e2 : ∀ q, rs_found K P seed wN j xsf rc s.1 = some q → rs_pl K P seed wN j xsf rc (n + 1 + c) s.1 f = rs_pl K P seed wN j xsf rc (n + c) (s.1 &&& (jv_lshl 1 (nI q.1) ^^^ (-1))) (upd f q.1 q.2) := by
      intro q hq
      rw [show n + 1 + c = (n + c) + 1 from by omega]
      show (match rs_found K P seed wN j xsf rc s.1 with | none => f | some q => _) = _
      rw [hq]
    have e3 : rs_found K P seed wN j xsf rc s.1 = none → rs_pl K P seed wN j xsf rc (n + 1 + c) s.1 f = f := by
      intro hq
      rw [show n + 1 + c = (n + c) + 1 from by omega]
      show (match rs_found K P seed wN j xsf rc s.1 with | none => f | some q => _) = f
      rw [hq]
    rcases pl_only hr ho rc 0 (by omega) with ⟨a, b, d⟩ | ⟨a, b, d⟩
    · rw [Nat.zero_add] at a
      obtain ⟨m1, m2⟩ := pl_ms hr (fun q hq => d q (by omega) (by omega)) KP h40
      rw [e1, if_pos (lg_cmp0.mpr b), m1]
      have ef : rs_found K P seed wN j xsf rc s.1 = (rs_ms K P seed wN j xsf s.1 rc KP).1.map (fun i => (i, 2)) := by
        unfold rs_found
        rw [a, if_neg (by omega), hKP]
      cases e : (rs_ms K P seed wN j xsf s.1 rc KP).1 with
      | none =>
        rw [e] at ef
        rw [e3 ef]
        show RelM KP (if lg_cmp 0 0 = 0 then (s.1, s.2.1, s.2.2 ||| 0) else _) f
        rw [if_pos (lg_cmp0.mpr rfl), eq_or0]; exact h
      | some i =>
        rw [e] at ef m2
        obtain ⟨i1, i2⟩ := m2 i rfl
        rw [e2 (i, 2) ef]
        show RelM KP (if lg_cmp (jv_lshl 1 (nI i)) 0 = 0 then _ else sp_run rows rc KP n (s.1 &&& (jv_lshl 1 (nI i) ^^^ (-1)), s.2.1, s.2.2 ||| jv_lshl 1 (nI i))) _
        rw [if_neg (mt lg_cmp0.mp (one_nz (by omega)))]
        have hd := rs_cb_clr (by omega) i2 40 (by omega)
        rw [if_pos (by omega)] at hd
        exact ih c (s.1 &&& (jv_lshl 1 (nI i) ^^^ (-1)), s.2.1, s.2.2 ||| jv_lshl 1 (nI i)) (upd f i 2) (h.cut h40 (by omega) i2).2.2 (by show rs_cb (s.1 &&& (jv_lshl 1 (nI i) ^^^ (-1))) 40 ≤ n; omega)
    · rw [Nat.zero_add] at a
      obtain ⟨o1, o2, o3⟩ := one_bit (lo40_and ho) b
      have ef : rs_found K P seed wN j xsf rc s.1 = some (rs_lo (rs_rowat K P seed wN j xsf (rs_fk K P seed wN j xsf s.1 rc 0) &&& s.1) 40 0, 1) := by
        unfold rs_found
        rw [if_pos a]
      generalize rs_lo (rs_rowat K P seed wN j xsf (rs_fk K P seed wN j xsf s.1 rc 0) &&& s.1) 40 0 = i at *
      have ob : gb s.1 i = true := by
        rw [gb_and] at o3
        cases q : gb s.1 i
        · rw [q, Bool.and_false] at o3; cases o3
        · rfl
      rw [e2 (i, 1) ef, e1, d, o1, if_neg (mt lg_cmp0.mp (one_nz (by omega)))]
      have hd := rs_cb_clr (by omega) ob 40 (by omega)
      rw [if_pos (by omega)] at hd
      exact ih c (s.1 &&& (jv_lshl 1 (nI i) ^^^ (-1)), s.2.1 ||| jv_lshl 1 (nI i), s.2.2) (upd f i 1) (h.cut h40 (by omega) ob).2.1 (by show rs_cb (s.1 &&& (jv_lshl 1 (nI i) ^^^ (-1))) 40 ≤ n; omega)
theorem pl_eq {KP : Nat} {sts : Nat → Int32} (hKP : K + P = KP) (h40 : KP ≤ 40) (hr : ∀ q, q < rc → rows q = rs_rowat K P seed wN j xsf q) : RelM KP (sp_run rows rc KP KP (sp_run0 KP)) (rs_pl K P seed wN j xsf rc 41 (jv_lshl 1 (nI KP) - 1) (rs_clr sts 40)) := by
  have h0 : RelM KP (sp_run0 KP) (rs_clr sts 40) := by
    refine ⟨fun i hi => ?_, fun i hi => ?_, loK_0, loK_0, fun i _ q => ?_⟩
    · show rs_clr sts 40 i = if gb 0 i = true then 1 else if gb 0 i = true then 2 else 0
      rw [gb_0]; exact if_pos hi
    · show gb (jv_lshl 1 (nI KP) - 1) i = (decide (i < KP) && (!gb 0 i && !gb 0 i))
      rw [gb_ones h40, gb_0]; simp
    · exact gb_0 i
  have := pl_run hKP h40 hr KP (41 - KP) (sp_run0 KP) (rs_clr sts 40) h0 (by have := rs_full h40; show rs_cb (jv_lshl 1 (nI KP) - 1) 40 ≤ KP; omega)
  rw [show KP + (41 - KP) = 41 from by omega] at this
  exact this
end
section
variable {KP : Nat} {s : Int64 × Int64 × Int64} {f : Nat → Int32}
theorem RelM.at (h : RelM KP s f) {i : Nat} (hi : i < 40) : sp_pof s (nI i) = f i := by
  unfold sp_pof
  rw [h.1 i hi]
  by_cases c : gb s.2.1 i = true
  · rw [if_neg (eq_bit1 (by omega) c), if_pos c]
  · rw [if_pos (eq_bit0 (by omega) (gb_nf c)), if_neg c]
    by_cases d : gb s.2.2 i = true
    · rw [if_neg (eq_bit1 (by omega) d), if_pos d]
    · rw [if_pos (eq_bit0 (by omega) (gb_nf d)), if_neg d]
theorem cnt_of {v : Int64} {of_ : Int32} (h40 : KP ≤ 40) (hl : loK KP v) (hb : ∀ i, i < KP → (gb v i = true ↔ f i = of_)) : sp_bc v = nI (rs_stc f of_ KP) := by
  rw [eq_bc (loK_40 hl h40)]
  congr 1
  have a : ∀ n, n ≤ KP → rs_cnt v n = rs_stc f of_ n := by
    intro n
    induction n with
    | zero => intro _; rfl
    | succ n ih =>
      intro hn
      show rs_cnt v n + rs_b v n = (if f n = of_ then rs_stc f of_ n + 1 else rs_stc f of_ n + 0)
      rw [ih (by omega), rs_b_gb (by omega)]
      by_cases c : gb v n = true
      · rw [if_pos c, if_pos ((hb n (by omega)).mp c)]
      · rw [if_neg c, if_neg (mt (hb n (by omega)).mpr c)]
  have b : ∀ n, KP + n ≤ 40 → rs_cnt v (KP + n) = rs_cnt v KP := by
    intro n
    induction n with
    | zero => intro _; rfl
    | succ n ih =>
      intro hn
      show rs_cnt v (KP + n) + rs_b v (KP + n) = _
      rw [ih (by omega), rs_b_gb (by omega), hl (KP + n) (by omega) (by omega)]; rfl
  have e := b (40 - KP) (by omega)
  rw [show KP + (40 - KP) = 40 from by omega] at e
  rw [e, a KP (Nat.le_refl _)]
theorem RelM.c1 (h : RelM KP s f) (h40 : KP ≤ 40) : sp_bc s.2.1 = nI (rs_stc f 1 KP) := cnt_of h40 h.2.2.1 (fun i hi => by
  rw [h.1 i (by omega)]
  by_cases c : gb s.2.1 i = true
  · rw [if_pos c]; exact ⟨fun _ => rfl, fun _ => c⟩
  · rw [if_neg c]
    refine ⟨fun q => absurd q c, fun q => ?_⟩
    split at q <;> exact absurd q (by decide))
theorem RelM.c2 (h : RelM KP s f) (h40 : KP ≤ 40) : sp_bc s.2.2 = nI (rs_stc f 2 KP) := cnt_of h40 h.2.2.2.1 (fun i hi => by
  rw [h.1 i (by omega)]
  have e := h.2.1 i (by omega)
  by_cases c : gb s.2.1 i = true
  · rw [if_pos c]
    refine ⟨fun q => ?_, fun q => absurd q (by decide)⟩
    rw [h.2.2.2.2 i (by omega) c] at q; cases q
  · rw [if_neg c]
    by_cases d : gb s.2.2 i = true
    · rw [if_pos d]; exact ⟨fun _ => rfl, fun _ => d⟩
    · rw [if_neg d]; exact ⟨fun q => absurd q d, fun q => absurd q (by decide)⟩)
theorem RelM.c0 (h : RelM KP s f) (h40 : KP ≤ 40) : sp_bc s.1 = nI (rs_stc f 0 KP) := cnt_of h40 (fun i h1 h2 => by rw [h.2.1 i h2, decide_eq_false (by omega)]; rfl) (fun i hi => by
  rw [h.1 i (by omega), h.2.1 i (by omega), decide_eq_true hi]
  by_cases c : gb s.2.1 i = true
  · rw [if_pos c, c]; exact ⟨fun q => absurd q (by simp), fun q => absurd q (by decide)⟩
  · rw [if_neg c, gb_nf c]
    by_cases d : gb s.2.2 i = true
    · rw [if_pos d, d]; exact ⟨fun q => absurd q (by simp), fun q => absurd q (by decide)⟩
    · rw [if_neg d, gb_nf d]; exact ⟨fun _ => rfl, fun _ => by simp⟩)
end
