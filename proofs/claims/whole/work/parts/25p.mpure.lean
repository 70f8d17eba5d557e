/-- peeling in the reference -/
def rs_fi (o : Option Nat) : Int32 := match o with
  | none => -1
  | some i => nI i
def rs_mc (K P : Nat) (seed : Int32) (wN : Nat → Nat) (j : Nat) (xsf : Nat → Int32) (op : Int64) (i : Nat) : Nat → Nat
  | 0 => 0
  | q + 1 => if nI (rs_cnt (rs_rowat K P seed wN j xsf q &&& op) 40) ≤ 1 then rs_mc K P seed wN j xsf op i q + 0 else if lg_cmp ((jv_lshr (rs_rowat K P seed wN j xsf q &&& op) (nI i)) &&& 1) 1 = 0 then rs_mc K P seed wN j xsf op i q + 1 else rs_mc K P seed wN j xsf op i q + 0
def rs_mn (K P : Nat) (seed : Int32) (wN : Nat → Nat) (j : Nat) (xsf : Nat → Int32) (op : Int64) (rc i : Nat) : Nat := if lg_cmp ((jv_lshr op (nI i)) &&& 1) 1 = 0 then rs_mc K P seed wN j xsf op i rc else 0
def rs_ms (K P : Nat) (seed : Int32) (wN : Nat → Nat) (j : Nat) (xsf : Nat → Int32) (op : Int64) (rc : Nat) : Nat → Option Nat × Nat
  | 0 => (none, 0)
  | k + 1 => if rs_mn K P seed wN j xsf op rc k ≤ (rs_ms K P seed wN j xsf op rc k).2 then rs_ms K P seed wN j xsf op rc k else (some k, rs_mn K P seed wN j xsf op rc k)
section
variable {K P : Nat} {seed : Int32} {wN : Nat → Nat} {j : Nat} {xsf : Nat → Int32} {op : Int64} {rc k n t q : Nat} {o1 : Option Nat}
theorem rs_ms_a (h : (o1, t) = rs_ms K P seed wN j xsf op rc k) (hn : n = rs_mn K P seed wN j xsf op rc k) (hk : n ≤ t) : (o1, t) = rs_ms K P seed wN j xsf op rc (k + 1) := by
  rw [h]
  refine Eq.symm (if_pos ?_)
  rw [← hn, ← h]; exact hk
theorem rs_ms_b (h : (o1, t) = rs_ms K P seed wN j xsf op rc k) (hn : n = rs_mn K P seed wN j xsf op rc k) (hk : ¬ n ≤ t) : (some k, n) = rs_ms K P seed wN j xsf op rc (k + 1) := by
  rw [hn]
  refine Eq.symm (if_neg ?_)
  rw [← hn, ← h]; exact hk
theorem rs_mn_a (hn : n = rs_mc K P seed wN j xsf op k q) (hq : q = rc) (hb : q = 0 ∨ lg_cmp ((jv_lshr op (nI k)) &&& 1) 1 = 0) : n = rs_mn K P seed wN j xsf op rc k := by
  unfold rs_mn
  by_cases h : lg_cmp ((jv_lshr op (nI k)) &&& 1) 1 = 0
  · rw [if_pos h, ← hq]; exact hn
  · rcases hb with e | e
    · rw [if_neg h, hn, e]; rfl
    · exact absurd e h
theorem rs_mn_b (hn : n = rs_mc K P seed wN j xsf op k q) (hb : q = 0 ∨ lg_cmp ((jv_lshr op (nI k)) &&& 1) 1 = 0) (h : ¬ lg_cmp ((jv_lshr op (nI k)) &&& 1) 1 = 0) : n = rs_mn K P seed wN j xsf op rc k := by
  unfold rs_mn
  rcases hb with e | e
  · rw [if_neg h, hn, e]; rfl
  · exact absurd e h
theorem rs_ms_some {KP : Nat} (hKP : KP ≤ 40) (h : ¬ rs_fi (rs_ms K P seed wN j xsf op rc KP).1 < 0) : ∃ i, (rs_ms K P seed wN j xsf op rc KP).1 = some i ∧ i < 40 ∧ ¬ sp_bit op (nI i) = 0 := sorry
end
def rs_clr (f : Nat → Int32) (k : Nat) : Nat → Int32 := fun q => if q < k then 0 else f q
theorem rs_clr_0 (f : Nat → Int32) : rs_clr f 0 = f := by
  funext q; unfold rs_clr; rw [if_neg (by omega)]
theorem rs_clr_s (f : Nat → Int32) (k : Nat) : upd (rs_clr f k) k 0 = rs_clr f (k + 1) := by
  funext q
  unfold upd rs_clr
  by_cases h : q = k
  · rw [if_pos h, if_pos (by omega)]
  · rw [if_neg h]
    by_cases h2 : q < k
    · rw [if_pos h2, if_pos (by omega)]
    · rw [if_neg h2, if_neg (by omega)]
def rs_fk (K P : Nat) (seed : Int32) (wN : Nat → Nat) (j : Nat) (xsf : Nat → Int32) (op : Int64) : Nat → Nat → Nat
  | 0, k => k
  | n + 1, k => if nI (rs_cnt (rs_rowat K P seed wN j xsf k &&& op) 40) = 1 then k else rs_fk K P seed wN j xsf op n (k + 1)
/-- the part that goes next, and what becomes of it -/
def rs_found (K P : Nat) (seed : Int32) (wN : Nat → Nat) (j : Nat) (xsf : Nat → Int32) (rc : Nat) (op : Int64) : Option (Nat × Int32) :=
  if rs_fk K P seed wN j xsf op rc 0 < rc then some (rs_lo (rs_rowat K P seed wN j xsf (rs_fk K P seed wN j xsf op rc 0) &&& op) 40 0, 1) else (rs_ms K P seed wN j xsf op rc (K + P)).1.map (fun i => (i, 2))
def rs_pl (K P : Nat) (seed : Int32) (wN : Nat → Nat) (j : Nat) (xsf : Nat → Int32) (rc : Nat) : Nat → Int64 → (Nat → Int32) → (Nat → Int32)
  | 0, _, f => f
  | n + 1, op, f => match rs_found K P seed wN j xsf rc op with
    | none => f
    | some q => rs_pl K P seed wN j xsf rc n (op &&& (jv_lshl 1 (nI q.1) ^^^ (-1))) (upd f q.1 q.2)
section
variable {K P : Nat} {seed : Int32} {wN : Nat → Nat} {j : Nat} {xsf : Nat → Int32} {op : Int64} {rc q i it : Nat} {st : Int32} {f : Nat → Int32}
theorem rs_found_a {lo : Nat} (h : rs_fk K P seed wN j xsf op rc 0 = q) (hq : q < rc) (hl : rs_lo (rs_rowat K P seed wN j xsf q &&& op) 40 0 = lo) : rs_found K P seed wN j xsf rc op = some (lo, 1) := by
  unfold rs_found
  rw [h, if_pos hq, hl]
theorem rs_found_b (h : rs_fk K P seed wN j xsf op rc 0 = rc) (hi : (rs_ms K P seed wN j xsf op rc (K + P)).1 = some i) : rs_found K P seed wN j xsf rc op = some (i, 2) := by
  unfold rs_found
  rw [h, if_neg (by omega), hi]; rfl
theorem rs_found_n (h : rs_fk K P seed wN j xsf op rc 0 = rc) (hn : rs_fi (rs_ms K P seed wN j xsf op rc (K + P)).1 < 0) : rs_found K P seed wN j xsf rc op = none := sorry
theorem rs_pl_s (h : rs_found K P seed wN j xsf rc op = some (i, st)) (hit : it ≤ 40) : rs_pl K P seed wN j xsf rc (41 - it) op f = (if (1 : Int32) = 0 then upd f i st else rs_pl K P seed wN j xsf rc (41 - (it + 1)) (op &&& (jv_lshl 1 (nI i) ^^^ (-1))) (upd f i st)) := by
  rw [if_neg (by decide), show 41 - it = (41 - (it + 1)) + 1 from by omega]
  show (match rs_found K P seed wN j xsf rc op with | none => f | some q => _) = _
  rw [h]
theorem rs_pl_n {op2 : Int64} (h : rs_found K P seed wN j xsf rc op = none) (hit : it ≤ 40) : rs_pl K P seed wN j xsf rc (41 - it) op f = (if (0 : Int32) = 0 then f else rs_pl K P seed wN j xsf rc (41 - (it + 1)) op2 f) := by
  rw [if_pos rfl, show 41 - it = (41 - (it + 1)) + 1 from by omega]
  show (match rs_found K P seed wN j xsf rc op with | none => f | some q => _) = _
  rw [h]
end
theorem rs_lo_cnt {v : Int64} (h : nI (rs_cnt v 40) = 1) : rs_lo v 40 0 < 40 := sorry
theorem rs_lo_in {v : Int64} {f r : Nat} (hf : f ≤ 40) (h : rs_lo v (40 - f) f = r) (hr : r < 40) : f < 40 := by
  rcases Nat.lt_or_ge f 40 with c | c
  · exact c
  · rw [show 40 - f = 0 from by omega] at h
    have e : f = r := h
    omega
theorem rs_bit_and {a op : Int64} {f : Nat} (hf : f < 64) (h : ¬ lg_cmp ((jv_lshr (a &&& op) (nI f)) &&& 1) 0 = 0) : ¬ sp_bit op (nI f) = 0 := sorry
theorem rs_full {KP : Nat} (h : KP ≤ 40) : rs_cb (jv_lshl 1 (nI KP) - 1) 40 + 0 = KP := sorry
theorem rs_cb_del {op : Int64} {i it KP : Nat} (hb : ¬ sp_bit op (nI i) = 0) (hi : i < 40) (h : rs_cb op 40 + it = KP) : rs_cb (op &&& (jv_lshl 1 (nI i) ^^^ (-1))) 40 + (it + 1) = KP := sorry
