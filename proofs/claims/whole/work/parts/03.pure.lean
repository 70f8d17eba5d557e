theorem ku_dec (x : Int32) : x + (-1) = x - 1 := by rw [Int32.sub_eq_add_neg]
def sp_b1 (x : Int64) : Int64 := x - ((jv_lushr x (1 : Int32)) &&& 6148914691236517205)
def sp_b2 (x : Int64) : Int64 := (x &&& 3689348814741910323) + ((jv_lushr x (2 : Int32)) &&& 3689348814741910323)
def sp_b3 (x : Int64) : Int64 := (x + (jv_lushr x (4 : Int32))) &&& 1085102592571150095
def sp_b4 (x : Int64) : Int64 := x + (jv_lushr x (8 : Int32))
def sp_b5 (x : Int64) : Int64 := x + (jv_lushr x (16 : Int32))
def sp_b6 (x : Int64) : Int64 := x + (jv_lushr x (32 : Int32))
def sp_bc (x : Int64) : Int32 := (sp_b6 (sp_b5 (sp_b4 (sp_b3 (sp_b2 (sp_b1 x)))))).toInt32 &&& 127
theorem ku_neg {a b : Nat} (ha : a < 2 ^ 30) (hb : b < 2 ^ 30) : nI a - nI b < 0 ↔ a < b := by
  constructor
  · intro h
    rcases Nat.lt_or_ge a b with q | q
    · exact q
    · rw [pk_sub q] at h
      exact absurd h (nI_pos (by omega))
  · intro h
    exact pk_sneg hb h
theorem ku_tn {i : Int32} (h : ¬ i < 0) : nI i.toNatClampNeg = i := by
  obtain ⟨j, hj, rfl⟩ := nI_of h
  rw [nI_clamp hj]
theorem ku_le {a b : Nat} (ha : a < 2 ^ 31) (hb : b < 2 ^ 31) : nI a ≤ nI b ↔ a ≤ b := nI_leI ha hb
theorem ku_nle {a b : Nat} (ha : a < 2 ^ 31) (hb : b < 2 ^ 31) : ¬ nI a ≤ nI b ↔ b < a := by rw [nI_leI ha hb]; omega
theorem ku_in {i : Int32} {len n : Nat} (h0 : ¬ i < 0) (h1 : ¬ nI len ≤ i) (hl : len ≤ n) (hn : n < 2 ^ 31) : vp_in i n := by
  obtain ⟨j, hj, rfl⟩ := nI_of h0
  have : j < len := by
    rcases Nat.lt_or_ge j len with q | q
    · exact q
    · exact absurd (nI_le q hj) h1
  exact vp_in_nI (by omega) hn
/-- whether 0 ≤ i < len, as a Java boolean -/
def sp_has (len : Nat) (i : Int32) : Int32 := if i < 0 then 0 else if nI len ≤ i then 0 else 1
theorem sp_has_in {i : Int32} {len n : Nat} (h : ¬ sp_has len i = 0) (hl : len ≤ n) (hn : n < 2 ^ 31) : vp_in i n := by
  unfold sp_has at h
  by_cases h0 : i < 0
  · rw [if_pos h0] at h; exact absurd rfl h
  · rw [if_neg h0] at h
    by_cases h1 : nI len ≤ i
    · rw [if_pos h1] at h; exact absurd rfl h
    · exact ku_in h0 h1 hl hn
theorem sp_has_01 (len : Nat) (i : Int32) : sp_has len i = 0 ∨ sp_has len i = 1 := by
  unfold sp_has
  by_cases h0 : i < 0
  · rw [if_pos h0]; exact Or.inl rfl
  · rw [if_neg h0]
    by_cases h1 : nI len ≤ i
    · rw [if_pos h1]; exact Or.inl rfl
    · rw [if_neg h1]; exact Or.inr rfl
def sp_at (len : Nat) (f : Nat → Int32) (i : Int32) : Int32 := if sp_has len i = 0 then 0 else f i.toNatClampNeg
def sp_put (len : Nat) (f : Nat → Int32) (i v : Int32) : Nat → Int32 := if sp_has len i = 0 then f else upd f i.toNatClampNeg (v &&& 255)
def sp_num (len : Nat) (f : Nat → Int32) (fr : Int32) : Nat → Int64
  | 0 => 0
  | k + 1 => jv_lshl (sp_num len f fr k) (8 : Int32) ||| (sp_at len f (fr + nI k)).toInt64
def sp_cs (x : Int32) : Int32 := if x <<< ((1 : Int32) &&& 31) ≤ 65535 then x <<< ((1 : Int32) &&& 31) else ((x <<< ((1 : Int32) &&& 31)) ^^^ 4129) &&& 65535
def sp_crcb (x : Int32) : Nat → Int32
  | 0 => x
  | j + 1 => sp_cs (sp_crcb x j)
def sp_crc (len : Nat) (f : Nat → Int32) : Nat → Int32
  | 0 => 65535
  | k + 1 => sp_crcb (sp_crc len f k ^^^ ((sp_at len f (nI k)) <<< ((8 : Int32) &&& 31))) 8
def sp_byte (x : Int64) (c : Nat) : Int32 := (jv_lushr x (nI (8 * c))).toInt32
def sp_app (n : Nat) (num : Int64) : Nat → (Nat → Int32) → Nat → (Nat → Int32) × Nat
  | 0, f, len => (f, len)
  | r + 1, f, len => if len < n then sp_app n num r (sp_put (len + 1) f (nI len) (sp_byte num r)) (len + 1) else (f, len)
theorem sp_app_le (n : Nat) (num : Int64) : ∀ (c : Nat) (f : Nat → Int32) (len : Nat), len ≤ n → (sp_app n num c f len).2 ≤ n := by
  intro c
  induction c with
  | zero => intro f len h; exact h
  | succ c ih =>
    intro f len h
    unfold sp_app
    by_cases h1 : len < n
    · rw [if_pos h1]; exact ih _ _ h1
    · rw [if_neg h1]; exact h
def sp_ends (len : Nat) (f : Nat → Int32) : Int32 := if len < 2 then 0 else if lg_cmp (sp_num len f (nI (len - 2)) 2) (sp_crc len f (len - 2)).toInt64 = 0 then 1 else 0
def sp_bit (b : Int64) (i : Int32) : Int32 := if lg_cmp ((jv_lushr b i) &&& 1) 0 = 0 then 0 else 1
def sp_next (z : Int32) : Int32 := (z * 1664525) + 1013904223
def sp_mod (z d : Int32) : Int32 := if d ≤ 0 then 0 else (jv_ushr z (1 : Int32)) - (jv_ushr z (1 : Int32)) / d * d
def sp_isnum (x : Int32) : Int32 := if x < 0 then 0 else if 65535 < x then 0 else 1
/-- sources -/
def sp_z (z : Int32) : Nat → Int32
  | 0 => z
  | k + 1 => sp_next (sp_z z k)
def sp_drawb (z : Int32) : Nat → Int64
  | 0 => 0
  | k + 1 => if sp_bit (jv_ushr (sp_z z (k + 1)) (1 : Int32)).toInt64 30 = 0 then sp_drawb z k else sp_drawb z k ||| jv_lshl 1 (nI k)
def sp_setsym (K S : Nat) (sy : Nat → Int64) (i : Int32) (v : Int64) : Nat → Int64 := if sp_has K i = 0 then sy else if 8 ≤ nI S then vp_updL sy i.toNatClampNeg v else vp_updL sy i.toNatClampNeg (v &&& (jv_lshl 1 (nI (8 * S)) - 1))
def sp_sos (P : Nat) (su : Nat → Int64) (j : Int32) : Int64 := if sp_has P j = 0 then 0 else su j.toNatClampNeg
def sp_vos (sy : Nat → Int64) (bits : Int64) : Nat → Int64
  | 0 => 0
  | k + 1 => if sp_bit bits (nI k) = 0 then sp_vos sy bits k else sp_vos sy bits k ^^^ sy k
def sp_part (K P : Nat) (su sy : Nat → Int64) (i : Int32) : Int64 := if sp_has K i = 0 then sp_vos sy (sp_sos P su (i - nI K)) 32 else sy i.toNatClampNeg
def sp_deg (w : Nat → Int32) (t : Int32) : Nat → Nat → Int32 → Nat
  | 0, _, _ => 12
  | n + 1, d, sum => if sum + w d ≤ t then sp_deg w t n (d + 1) (sum + w d) else d + 1
def sp_fo (KP : Nat) (bits : Int64) : Nat → Nat → Nat
  | 0, i => i
  | n + 1, i => if sp_bit bits (nI i) = 0 then i else sp_fo KP bits n (if KP ≤ i + 1 then 0 else i + 1)
theorem sp_fo_lt {KP : Nat} {bits : Int64} (h0 : 0 < KP) : ∀ n i, i < KP → sp_fo KP bits n i < KP := by
  intro n
  induction n with
  | zero => intro i h; exact h
  | succ n ih =>
    intro i h
    unfold sp_fo
    by_cases h1 : sp_bit bits (nI i) = 0
    · rw [if_pos h1]; exact h
    · rw [if_neg h1]
      apply ih
      by_cases h2 : KP ≤ i + 1
      · rw [if_pos h2]; exact h0
      · rw [if_neg h2]; omega
/-- what is drawn, as a number -/
def sp_dn (z : Int32) : Nat := z.toBitVec.toNat / 2
theorem sp_ushr1 (z : Int32) : jv_ushr z (1 : Int32) = nI (sp_dn z) := by
  apply Int32.toBitVec_inj.mp
  apply BitVec.eq_of_toNat_eq
  unfold jv_ushr
  rw [pk_ushr z 1 1 (by decide), nI]
  unfold sp_dn
  have h : z.toBitVec.toNat < 2 ^ 32 := z.toBitVec.isLt
  have e : (Int32.ofNat (z.toBitVec.toNat / 2)).toBitVec.toNat = z.toBitVec.toNat / 2 := pk_tn (n := z.toBitVec.toNat / 2) (by omega)
  rw [e]
theorem sp_dn_lt (z : Int32) : sp_dn z < 2 ^ 31 := by
  have h : z.toBitVec.toNat < 2 ^ 32 := z.toBitVec.isLt
  unfold sp_dn; omega
theorem sp_mod_nI (z : Int32) {d : Nat} (h0 : 0 < d) (hd : d < 2 ^ 31) : sp_mod z (nI d) = nI (sp_dn z % d) := by
  unfold sp_mod
  rw [if_neg (nI_nle h0 hd), sp_ushr1, pk_rem (sp_dn_lt z) h0 hd]
def sp_rowl (KP : Nat) : Nat → Int32 → Int64 → Int64
  | 0, _, b => b
  | n + 1, z, b => sp_rowl KP n (sp_next z) (b ||| jv_lshl 1 (nI (sp_fo KP b KP (sp_dn (sp_next z) % KP))))
def sp_want (KP : Nat) (w : Nat → Int32) (T z : Int32) : Nat := if KP < sp_deg w (sp_mod z T) 12 0 0 then KP else sp_deg w (sp_mod z T) 12 0 0
def sp_row (K P : Nat) (seed : Int32) (w : Nat → Int32) (T x : Int32) : Int64 := if sp_has K x = 0 then sp_rowl (K + P) (sp_want (K + P) w T (sp_next (seed ^^^ (x * 40503)))) (sp_next (seed ^^^ (x * 40503))) 0 else jv_lshl 1 x
theorem sp_deg_in (w : Nat → Int32) (t : Int32) : ∀ n d s, d + n = 12 → 1 ≤ sp_deg w t n d s ∧ sp_deg w t n d s ≤ 12 := by
  intro n
  induction n with
  | zero => intro d s _; unfold sp_deg; omega
  | succ n ih =>
    intro d s h
    unfold sp_deg
    by_cases h1 : s + w d ≤ t
    · rw [if_pos h1]; exact ih _ _ (by omega)
    · rw [if_neg h1]; omega
theorem sp_min {a b : Nat} (ha : a < 2 ^ 31) (hb : b < 2 ^ 31) : (if nI b < nI a then nI b else nI a) = nI (if b < a then b else a) := by
  by_cases h : b < a
  · rw [if_pos h, if_pos ((nI_ltI hb ha).mpr h)]
  · rw [if_neg h, if_neg (fun q => h ((nI_ltI hb ha).mp q))]
def sp_outl (K P : Nat) (su sy : Nat → Int64) (bits : Int64) : Nat → Int64
  | 0 => 0
  | k + 1 => if sp_bit bits (nI k) = 0 then sp_outl K P su sy bits k else sp_outl K P su sy bits k ^^^ sp_part K P su sy (nI k)
theorem sp_want_le {KP : Nat} {w : Nat → Int32} {T z : Int32} (h : KP ≤ 40) : sp_want KP w T z ≤ 40 := by
  unfold sp_want
  have := (sp_deg_in w (sp_mod z T) 12 0 0 rfl).2
  by_cases h1 : KP < sp_deg w (sp_mod z T) 12 0 0
  · rw [if_pos h1]; exact h
  · rw [if_neg h1]; omega
/-- spans -/
def sp_clr (f : Nat → Int64) (k : Nat) : Nat → Int64 := fun j => if j < k then 0 else f j
theorem sp_clr_0 (f : Nat → Int64) : sp_clr f 0 = f := by
  funext j; unfold sp_clr; rw [if_neg (by omega)]
theorem sp_clr_s (f : Nat → Int64) (k : Nat) : vp_updL (sp_clr f k) k 0 = sp_clr f (k + 1) := by
  funext j
  unfold vp_updL sp_clr
  by_cases h : j = k
  · rw [if_pos h, if_pos (by omega)]
  · rw [if_neg h]
    by_cases h2 : j < k
    · rw [if_pos h2, if_pos (by omega)]
    · rw [if_neg h2, if_neg (by omega)]
def sp_alone (rows : Nat → Int64) (i : Int32) : Int32 := if i < 0 then 0 else if 40 ≤ i then 0 else if lg_cmp (rows i.toNatClampNeg) (jv_lshl 1 i) = 0 then 1 else 0
def sp_cnt (rows : Nat → Int64) : Nat → Nat
  | 0 => 0
  | k + 1 => if sp_alone rows (nI k) = 0 then sp_cnt rows k else sp_cnt rows k + 1
def sp_red (rows : Nat → Int64) (row : Int64) : Nat → Int64
  | 0 => row
  | k + 1 => if lg_cmp (rows k) 0 = 0 then sp_red rows row k else if sp_bit row (nI k) = 0 then sp_red rows row k else sp_red rows row k ^^^ rows k
def sp_redv (rows vals : Nat → Int64) (row val : Int64) : Nat → Int64
  | 0 => val
  | k + 1 => if lg_cmp (rows k) 0 = 0 then sp_redv rows vals row val k else if sp_bit row (nI k) = 0 then sp_redv rows vals row val k else sp_redv rows vals row val k ^^^ vals k
def sp_contra (rows vals : Nat → Int64) (row val : Int64) : Int32 := if lg_cmp (sp_red rows row 40) 0 = 0 then (if lg_cmp (sp_redv rows vals row val 40) 0 = 0 then 0 else 1) else 0
def sp_low (rr : Int64) : Nat → Nat → Nat
  | 0, i => i
  | n + 1, i => if sp_bit rr (nI i) = 0 then sp_low rr n (i + 1) else i
theorem sp_low_le (rr : Int64) : ∀ n i, sp_low rr n i ≤ i + n := by
  intro n
  induction n with
  | zero => intro i; exact Nat.le_refl _
  | succ n ih =>
    intro i
    unfold sp_low
    by_cases h : sp_bit rr (nI i) = 0
    · rw [if_pos h]; have := ih (i + 1); omega
    · rw [if_neg h]; omega
theorem sp_low_lt (rr : Int64) : sp_low rr 39 0 < 40 := by have := sp_low_le rr 39 0; omega
def sp_el (rows : Nat → Int64) (rr : Int64) (own : Nat) : Nat → (Nat → Int64)
  | 0 => rows
  | k + 1 => if sp_bit (sp_el rows rr own k k) (nI own) = 0 then sp_el rows rr own k else vp_updL (sp_el rows rr own k) k (sp_el rows rr own k k ^^^ rr)
def sp_elv (rows vals : Nat → Int64) (rr rv : Int64) (own : Nat) : Nat → (Nat → Int64)
  | 0 => vals
  | k + 1 => if sp_bit (sp_el rows rr own k k) (nI own) = 0 then sp_elv rows vals rr rv own k else vp_updL (sp_elv rows vals rr rv own k) k (sp_elv rows vals rr rv own k k ^^^ rv)
def sp_addr (rows : Nat → Int64) (row : Int64) : Nat → Int64 := if lg_cmp (sp_red rows row 40) 0 = 0 then rows else vp_updL (sp_el rows (sp_red rows row 40) (sp_low (sp_red rows row 40) 39 0) 40) (sp_low (sp_red rows row 40) 39 0) (sp_red rows row 40)
def sp_addv (rows vals : Nat → Int64) (row val : Int64) : Nat → Int64 := if lg_cmp (sp_red rows row 40) 0 = 0 then vals else vp_updL (sp_elv rows vals (sp_red rows row 40) (sp_redv rows vals row val 40) (sp_low (sp_red rows row 40) 39 0) 40) (sp_low (sp_red rows row 40) 39 0) (sp_redv rows vals row val 40)
def sp_addk (rows : Nat → Int64) (row : Int64) (rk : Nat) : Nat := if lg_cmp (sp_red rows row 40) 0 = 0 then rk else rk + 1
/-- peeling -/
def sp_crw (rows : Nat → Int64) (i : Int32) : Nat → Nat
  | 0 => 0
  | k + 1 => if sp_bit (rows k) i = 0 then sp_crw rows i k else sp_crw rows i k + 1
theorem sp_crw_le (rows : Nat → Int64) (i : Int32) : ∀ k, sp_crw rows i k ≤ k := by
  intro k
  induction k with
  | zero => exact Nat.le_refl _
  | succ k ih =>
    unfold sp_crw
    by_cases h : sp_bit (rows k) i = 0
    · rw [if_pos h]; omega
    · rw [if_neg h]; omega
def sp_only (rows : Nat → Int64) (op : Int64) : Nat → Nat → Int64
  | 0, _ => 0
  | m + 1, k => if sp_bc (rows k &&& op) = 1 then rows k &&& op else sp_only rows op m (k + 1)
def sp_cc (rows : Nat → Int64) (op : Int64) (rc k : Nat) : Nat := if sp_bit op (nI k) = 0 then 0 else sp_crw rows (nI k) rc
def sp_ms (rows : Nat → Int64) (op : Int64) (rc : Nat) : Nat → Int64 × Nat
  | 0 => (0, 0)
  | k + 1 => if sp_cc rows op rc k ≤ (sp_ms rows op rc k).2 then sp_ms rows op rc k else (jv_lshl 1 (nI k), sp_cc rows op rc k)
theorem sp_ms_a {rows : Nat → Int64} {op x : Int64} {rc k t : Nat} (ht : (x, t) = sp_ms rows op rc k) (hb : sp_bit op (nI k) = 0) : (x, t) = sp_ms rows op rc (k + 1) := by
  rw [ht]
  refine Eq.symm (if_pos ?_)
  unfold sp_cc
  rw [if_pos hb]
  exact Nat.zero_le _
theorem sp_ms_b {rows : Nat → Int64} {op x : Int64} {rc k t : Nat} (ht : (x, t) = sp_ms rows op rc k) (hb : ¬ sp_bit op (nI k) = 0) (hc : nI (sp_crw rows (nI k) rc) ≤ nI t) (h1 : sp_crw rows (nI k) rc < 2 ^ 31) (h2 : t < 2 ^ 31) : (x, t) = sp_ms rows op rc (k + 1) := by
  have h3 := (nI_leI h1 h2).mp hc
  rw [ht]
  refine Eq.symm (if_pos ?_)
  unfold sp_cc
  rw [if_neg hb, ← ht]
  exact h3
theorem sp_ms_c {rows : Nat → Int64} {op x : Int64} {rc k t : Nat} (ht : (x, t) = sp_ms rows op rc k) (hb : ¬ sp_bit op (nI k) = 0) (hc : ¬ nI (sp_crw rows (nI k) rc) ≤ nI t) (h1 : sp_crw rows (nI k) rc < 2 ^ 31) (h2 : t < 2 ^ 31) : (jv_lshl 1 (nI k), sp_crw rows (nI k) rc) = sp_ms rows op rc (k + 1) := by
  have h3 := mt (nI_leI h1 h2).mpr hc
  have e : sp_cc rows op rc k = sp_crw rows (nI k) rc := if_neg hb
  rw [← e]
  refine Eq.symm (if_neg ?_)
  rw [e, ← ht]
  exact h3
def sp_run0 (KP : Nat) : Int64 × Int64 × Int64 := (jv_lshl 1 (nI KP) - 1, 0, 0)
def sp_run (rows : Nat → Int64) (rc KP : Nat) : Nat → Int64 × Int64 × Int64 → Int64 × Int64 × Int64
  | 0, s => s
  | n + 1, s => if lg_cmp (sp_only rows s.1 rc 0) 0 = 0 then (if lg_cmp (sp_ms rows s.1 rc KP).1 0 = 0 then (s.1, s.2.1, s.2.2 ||| (sp_ms rows s.1 rc KP).1) else sp_run rows rc KP n (s.1 &&& ((sp_ms rows s.1 rc KP).1 ^^^ (-1)), s.2.1, s.2.2 ||| (sp_ms rows s.1 rc KP).1)) else sp_run rows rc KP n (s.1 &&& (sp_only rows s.1 rc 0 ^^^ (-1)), s.2.1 ||| sp_only rows s.1 rc 0, s.2.2)
theorem sp_run_a {rows : Nat → Int64} {rc KP n : Nat} {p1 f1 i1 : Int64} (h : lg_cmp (sp_only rows p1 rc 0) 0 = 0) (h2 : ¬ lg_cmp (sp_ms rows p1 rc KP).1 0 = 0) : sp_run rows rc KP (n + 1) (p1, f1, i1) = sp_run rows rc KP n (p1 &&& ((sp_ms rows p1 rc KP).1 ^^^ (-1)), f1, i1 ||| (sp_ms rows p1 rc KP).1) := (if_pos h).trans (if_neg h2)
theorem sp_run_b {rows : Nat → Int64} {rc KP n : Nat} {p1 f1 i1 : Int64} (h : ¬ lg_cmp (sp_only rows p1 rc 0) 0 = 0) (_ : ¬ lg_cmp (sp_only rows p1 rc 0) 0 = 0) : sp_run rows rc KP (n + 1) (p1, f1, i1) = sp_run rows rc KP n (p1 &&& (sp_only rows p1 rc 0 ^^^ (-1)), f1 ||| sp_only rows p1 rc 0, i1) := if_neg h
theorem sp_run_c {rows : Nat → Int64} {rc KP n : Nat} {p1 f1 i1 : Int64} (h : lg_cmp (sp_only rows p1 rc 0) 0 = 0) (h2 : lg_cmp (sp_ms rows p1 rc KP).1 0 = 0) : sp_run rows rc KP (n + 1) (p1, f1, i1) = (p1, f1, i1 ||| (sp_ms rows p1 rc KP).1) := (if_pos h).trans (if_pos h2)
/-- receivers: a span's rows, values, rank, rest's row, rest's value -/
abbrev SpS : Type := (Nat → Int64) × (Nat → Int64) × Nat × Int64 × Int64
def sp_adds (S : SpS) (row val : Int64) : SpS := (sp_addr S.1 row, sp_addv S.1 S.2.1 row val, sp_addk S.1 row S.2.2.1, sp_red S.1 row 40, sp_redv S.1 S.2.1 row val 40)
def sp_ctr (S : SpS) (row val : Int64) : SpS := (S.1, S.2.1, S.2.2.1, sp_red S.1 row 40, sp_redv S.1 S.2.1 row val 40)
def sp_htn (nums : Nat → Int32) (x : Int32) : Nat → Nat → Int32
  | 0, _ => 0
  | n + 1, k => if nums k = x then 1 else sp_htn nums x n (k + 1)
def sp_fresh (old : Int32) (rws : Nat → Int64) (rc KP : Nat) (Pl : Int64 × Int64 × Int64) : Int64 × Int64 × Int64 := if old = 0 then Pl else sp_run rws rc KP KP (sp_run0 KP)
def sp_pof (Pl : Int64 × Int64 × Int64) (i : Int32) : Int32 := if sp_bit Pl.2.1 i = 0 then (if sp_bit Pl.2.2 i = 0 then 0 else 2) else 1
def sp_clrs (S : SpS) : SpS := (sp_clr S.1 40, sp_clr S.2.1 40, 0, S.2.2.2.1, S.2.2.2.2)
def sp_row0 (K P : Nat) (su : Nat → Int64) (k : Nat) : Int64 := sp_sos P su (nI k) ||| jv_lshl 1 (nI (K + k))
def sp_s0 (K P : Nat) (su : Nat → Int64) (S : SpS) : Nat → SpS
  | 0 => sp_clrs S
  | k + 1 => sp_adds (sp_s0 K P su S k) (sp_row0 K P su k) 0
def sp_r0 (K P : Nat) (su : Nat → Int64) (rws : Nat → Int64) : Nat → (Nat → Int64)
  | 0 => rws
  | k + 1 => vp_updL (sp_r0 K P su rws k) k (sp_row0 K P su k)
/-- a receiver: its span, numbers, outputs, rows, how many were taken, whether its peeling is old -/
abbrev RcT : Type := SpS × (Nat → Int32) × (Nat → Int64) × (Nat → Int64) × Nat × Int32
def sp_acc (P : Nat) (row : Int64) (x : Int32) (out : Int64) (Z : RcT) : Int32 × RcT :=
  if sp_htn Z.2.1 x Z.2.2.2.2.1 0 = 0 then (if nI Z.2.2.2.2.1 < 64 then (if sp_contra Z.1.1 Z.1.2.1 row out = 0 then (nI (sp_adds (sp_ctr Z.1 row out) row out).2.2.1, (sp_adds (sp_ctr Z.1 row out) row out, upd Z.2.1 Z.2.2.2.2.1 x, vp_updL Z.2.2.1 Z.2.2.2.2.1 out, vp_updL Z.2.2.2.1 (P + Z.2.2.2.2.1) row, Z.2.2.2.2.1 + 1, 1)) else (-7, (sp_ctr Z.1 row out, Z.2))) else (-4, Z)) else (-6, Z)
def sp_tf (P : Nat) (row : Int64) (x : Int32) (out : Int64) (len : Nat) (f : Nat → Int32) (Z : RcT) (wr tw co : Int32) : Int32 × RcT × Int32 × Int32 × Int32 :=
  if sp_ends len f = 0 then (-5, Z, wr + 1, tw, co) else if (sp_acc P row x out Z).1 = (-6) then ((sp_acc P row x out Z).1, (sp_acc P row x out Z).2, wr, tw + 1, co) else if (sp_acc P row x out Z).1 = (-7) then ((sp_acc P row x out Z).1, (sp_acc P row x out Z).2, wr, tw, co + 1) else ((sp_acc P row x out Z).1, (sp_acc P row x out Z).2, wr, tw, co)
def sp_tell (what : Int32) (S : SpS) (tk KP : Nat) (Pl : Int64 × Int64 × Int64) (wr tw co : Int32) : Int32 :=
  if what.toInt < 0 ∨ 9 < what.toInt then -2 else if what.toInt = 0 then nI S.2.2.1 else if what.toInt = 1 then nI tk else if what.toInt = 2 then (if nI S.2.2.1 = nI KP then 1 else 0) else if what.toInt = 3 then nI (sp_cnt S.1 40) else if what.toInt = 4 then sp_bc Pl.2.1 else if what.toInt = 5 then sp_bc Pl.2.2 else if what.toInt = 6 then sp_bc Pl.1 else if what.toInt = 7 then wr else if what.toInt = 8 then tw else if what.toInt = 9 then co else -2
def sp_tello (what old : Int32) : Int32 := if 4 ≤ what.toInt ∧ what.toInt ≤ 6 then 0 else old
def sp_tellp (what : Int32) (Pl Q : Int64 × Int64 × Int64) : Int64 × Int64 × Int64 := if 4 ≤ what.toInt ∧ what.toInt ≤ 6 then Q else Pl
theorem sp_if0 (len : Nat) : (if 0 < len then 0 else len) = 0 := by split <;> omega
def sp_ap (n : Nat) (num : Int64) (cn : Nat) (B : (Nat → Int32) × Nat) : (Nat → Int32) × Nat := sp_app n num cn B.1 B.2
def sp_wr5 (n K P S : Nat) (seed : Int32) (tk : Nat) (f : Nat → Int32) : (Nat → Int32) × Nat := sp_ap n (nI tk).toInt64 2 (sp_ap n seed.toInt64 4 (sp_ap n (nI S).toInt64 1 (sp_ap n (nI P).toInt64 1 (sp_ap n (nI K).toInt64 1 (f, 0)))))
def sp_wr1 (n S : Nat) (nums : Nat → Int32) (outs : Nat → Int64) (k : Nat) (B : (Nat → Int32) × Nat) : (Nat → Int32) × Nat := sp_ap n (outs k) S (sp_ap n (nums k).toInt64 2 B)
def sp_wrl (n S : Nat) (nums : Nat → Int32) (outs : Nat → Int64) (B : (Nat → Int32) × Nat) : Nat → (Nat → Int32) × Nat
  | 0 => B
  | k + 1 => sp_wr1 n S nums outs k (sp_wrl n S nums outs B k)
def sp_fin (n : Nat) (B : (Nat → Int32) × Nat) : (Nat → Int32) × Nat := sp_ap n (sp_crc B.2 B.1 B.2).toInt64 2 B
def sp_wr (n K P S : Nat) (seed : Int32) (nums : Nat → Int32) (outs : Nat → Int64) (tk : Nat) (f : Nat → Int32) : (Nat → Int32) × Nat := sp_fin n (sp_wrl n S nums outs (sp_wr5 n K P S seed tk f) tk)
theorem ku_lec {x : Int32} {k : Nat} (hk : k < 2 ^ 31) : x ≤ nI k ↔ x.toNatClampNeg ≤ k := by
  by_cases h : x < 0
  · have h1 : x.toNatClampNeg = 0 := by
      have := Int32.lt_iff_toInt_lt.mp h
      have e : (0 : Int32).toInt = 0 := rfl
      unfold Int32.toNatClampNeg; omega
    have h2 : x ≤ nI k := by
      rw [Int32.le_iff_toInt_le, nI_toInt hk]
      have := Int32.lt_iff_toInt_lt.mp h
      have e : (0 : Int32).toInt = 0 := rfl
      omega
    rw [h1]; exact ⟨fun _ => Nat.zero_le _, fun _ => h2⟩
  · obtain ⟨j, hj, rfl⟩ := nI_of h
    rw [nI_clamp hj, nI_leI hj hk]
theorem sp_clamp_lt (x : Int32) : x.toNatClampNeg < 2 ^ 31 := by
  by_cases h : x < 0
  · have := Int32.lt_iff_toInt_lt.mp h
    have e : (0 : Int32).toInt = 0 := rfl
    unfold Int32.toNatClampNeg; omega
  · obtain ⟨j, hj, rfl⟩ := nI_of h
    rw [nI_clamp hj]; exact hj
def sp_rd0 (K P : Nat) (su : Nat → Int64) (Z : RcT) : RcT := (sp_s0 K P su Z.1 P, Z.2.1, Z.2.2.1, sp_r0 K P su Z.2.2.2.1 P, 0, 1)
def sp_rds (K P S : Nat) (seed : Int32) (w : Nat → Int32) (T : Int32) (len : Nat) (f : Nat → Int32) (k : Nat) (Z : RcT) : RcT := (sp_acc P (sp_row K P seed w T (sp_num len f (nI (9 + (k * (2 + S)))) 2).toInt32) (sp_num len f (nI (9 + (k * (2 + S)))) 2).toInt32 (sp_num len f (nI (9 + (k * (2 + S))) + 2) S) Z).2
def sp_rd (K P S : Nat) (seed : Int32) (w : Nat → Int32) (T : Int32) (len : Nat) (f : Nat → Int32) (su : Nat → Int64) (Z : RcT) : Nat → RcT
  | 0 => sp_rd0 K P su Z
  | k + 1 => sp_rds K P S seed w T len f k (sp_rd K P S seed w T len f su Z k)
theorem sp_s0_rk (K P : Nat) (su : Nat → Int64) (S : SpS) : ∀ k, (sp_s0 K P su S k).2.2.1 ≤ k + 0 := by
  intro k
  induction k with
  | zero => exact Nat.le_refl _
  | succ k ih =>
    show sp_addk (sp_s0 K P su S k).1 (sp_row0 K P su k) (sp_s0 K P su S k).2.2.1 ≤ k + 1
    unfold sp_addk
    split <;> omega
theorem sp_acc_tk {P : Nat} {row out : Int64} {x : Int32} {Z : RcT} (h : Z.2.2.2.2.1 ≤ 64) : (sp_acc P row x out Z).2.2.2.2.2.1 ≤ 64 := by
  unfold sp_acc
  split
  · split
    · rename_i h1
      have := (nI_ltI (a := Z.2.2.2.2.1) (b := 64) (by omega) (by omega)).mp h1
      split
      · show Z.2.2.2.2.1 + 1 ≤ 64; omega
      · exact h
    · exact h
  · exact h
theorem sp_acc_rk {P : Nat} {row out : Int64} {x : Int32} {Z : RcT} (h : Z.1.2.2.1 ≤ P + Z.2.2.2.2.1) : (sp_acc P row x out Z).2.1.2.2.1 ≤ P + (sp_acc P row x out Z).2.2.2.2.2.1 := by
  unfold sp_acc
  split
  · split
    · split
      · show sp_addk (sp_ctr Z.1 row out).1 row (sp_ctr Z.1 row out).2.2.1 ≤ P + (Z.2.2.2.2.1 + 1)
        have e : (sp_ctr Z.1 row out).2.2.1 = Z.1.2.2.1 := rfl
        rw [e]; unfold sp_addk
        split <;> omega
      · exact h
    · exact h
  · exact h
theorem sp_rds_tk {K P S : Nat} {seed : Int32} {w : Nat → Int32} {T : Int32} {len : Nat} {f : Nat → Int32} {k : Nat} {Z : RcT} (h : Z.2.2.2.2.1 ≤ 64) : (sp_rds K P S seed w T len f k Z).2.2.2.2.1 ≤ 64 := sp_acc_tk h
theorem sp_rds_rk {K P S : Nat} {seed : Int32} {w : Nat → Int32} {T : Int32} {len : Nat} {f : Nat → Int32} {k : Nat} {Z : RcT} (h : Z.1.2.2.1 ≤ P + Z.2.2.2.2.1) : (sp_rds K P S seed w T len f k Z).1.2.2.1 ≤ P + (sp_rds K P S seed w T len f k Z).2.2.2.2.1 := sp_acc_rk h
def sp_su (K P : Nat) (seed : Int32) : Nat → (Nat → Int64)
  | 0 => fun _ => 0
  | k + 1 => vp_updL (sp_su K P seed k) k (sp_drawb (seed + (40503 * nI (k + 1))) K)
/-- the whole object -/
def sp_sat (cnt : Nat) (fS : Nat → Option Nat) (x : Int32) : Option Nat := if x < 0 then none else if nI cnt ≤ x then none else fS x.toNatClampNeg
theorem sp_sat_no {cnt : Nat} {fS : Nat → Option Nat} {x : Int32} (h : sp_has cnt x = 0) : sp_sat cnt fS x = none := by
  unfold sp_has at h
  unfold sp_sat
  by_cases h0 : x < 0
  · rw [if_pos h0]
  · rw [if_neg h0] at h ⊢
    by_cases h1 : nI cnt ≤ x
    · rw [if_pos h1]
    · rw [if_neg h1] at h; exact absurd h (by decide)
theorem sp_sat_at {cnt : Nat} {fS : Nat → Option Nat} {j o : Nat} (hc : cnt ≤ 4) (hj : j < cnt) (h : fS j = some o) : sp_sat cnt fS (nI j) = some o := by
  unfold sp_sat
  rw [if_neg (nI_pos (by omega)), if_neg (by rw [nI_leI (by omega) (by omega)]; omega), nI_clamp (by omega), h]
theorem ku_deg {d : Int32} (h1 : ¬ d < 1) (h2 : d ≤ 12) : vp_in (d - 1) 12 := by
  have h0 : ¬ d < 0 := fun h => h1 (by
    rw [Int32.lt_iff_toInt_lt] at h ⊢
    have e0 : (0 : Int32).toInt = 0 := rfl
    have e1 : (1 : Int32).toInt = 1 := rfl
    omega)
  obtain ⟨j, hj, rfl⟩ := nI_of h0
  have a1 : ¬ j < 1 := fun h => h1 ((nI_ltI (a := j) (b := 1) hj (by omega)).mpr h)
  have a2 : j ≤ 12 := (nI_leI (a := j) (b := 12) hj (by omega)).mp h2
  have e : nI j - 1 = nI (j - 1) := pk_sub (a := j) (b := 1) (by omega)
  rw [e]
  exact vp_in_nI (by omega) (by omega)
def sp_degr (wt : Nat → Int32) (d v : Int32) : Int32 := if d < 1 then -1 else if d ≤ 12 then (if v < 0 then -2 else if v ≤ 100 then wt (d - 1).toNatClampNeg else -2) else -1
def sp_degw (wt : Nat → Int32) (d v : Int32) : Nat → Int32 := if d < 1 then wt else if d ≤ 12 then (if v < 0 then wt else if v ≤ 100 then upd wt (d - 1).toNatClampNeg v else wt) else wt
def sp_fby (fs : Int32) (flen : Nat) (ff : Nat → Int32) (i : Int32) : Int32 := if 0 ≤ fs then (if sp_has flen i = 0 then -1 else sp_at flen ff i) else -3
def sp_pokef (fs : Int32) (flen : Nat) (ff : Nat → Int32) (i v : Int32) : Nat → Int32 := if 0 ≤ fs then (if sp_has flen i = 0 then ff else sp_put flen ff i (sp_at flen ff i ^^^ v)) else ff
def sp_poker (fs : Int32) (flen : Nat) (ff : Nat → Int32) (i v : Int32) : Int32 := if 0 ≤ fs then (if sp_has flen i = 0 then -1 else sp_at flen (sp_put flen ff i (sp_at flen ff i ^^^ v)) i) else -3
def sp_iby (ilen : Nat) (fi : Nat → Int32) (i : Int32) : Int32 := if sp_has ilen i = 0 then -1 else sp_at ilen fi i
def sp_cutr (ilen : Nat) (i : Int32) : Int32 := if i < 0 then -2 else if i ≤ nI ilen then nI ilen else -2
def sp_cutl (ilen : Nat) (i : Int32) : Nat := if i < 0 then ilen else if i ≤ nI ilen then i.toNatClampNeg else ilen
theorem sp_cut_a {ilen : Nat} {i : Int32} (h : i < 0) : (-2) = sp_cutr ilen i := (if_pos h).symm
theorem sp_cut_b {ilen j : Nat} (hj : j < 2 ^ 31) (hi : ilen < 2 ^ 31) (h : j ≤ ilen) : sp_cutr ilen (nI j) = nI ilen := (if_neg (nI_pos hj)).trans (if_pos ((nI_leI hj hi).mpr h))
theorem sp_cut_c {ilen j : Nat} (hj : j < 2 ^ 31) (hi : ilen < 2 ^ 31) (h : ¬ j ≤ ilen) : sp_cutr ilen (nI j) = -2 := (if_neg (nI_pos hj)).trans (if_neg (mt (nI_leI hj hi).mp h))
theorem sp_cut_d {ilen : Nat} {i : Int32} (h : i < 0) : sp_cutl ilen i = ilen := if_pos h
theorem sp_cut_e {ilen j : Nat} (hj : j < 2 ^ 31) (hi : ilen < 2 ^ 31) (h : j ≤ ilen) : sp_cutl ilen (nI j) = if j < ilen then j else ilen := by
  unfold sp_cutl
  rw [if_neg (nI_pos hj), if_pos ((nI_leI hj hi).mpr h), nI_clamp hj]
  split <;> omega
theorem sp_cut_f {ilen j : Nat} (hj : j < 2 ^ 31) (hi : ilen < 2 ^ 31) (h : ¬ j ≤ ilen) : sp_cutl ilen (nI j) = ilen := (if_neg (nI_pos hj)).trans (if_neg (mt (nI_leI hj hi).mp h))
def sp_signr (fs : Int32) (flen : Nat) (ff : Nat → Int32) : Int32 := if 0 ≤ fs then sp_crc flen ff (flen - 2) else -3
def sp_signf (fs : Int32) (flen : Nat) (ff : Nat → Int32) : (Nat → Int32) × Nat := if 0 ≤ fs then sp_app 12 (sp_crc flen ff (flen - 2)).toInt64 2 ff (flen - 2) else (ff, flen)
def sp_frow (K P : Nat) (seed : Int32) (w : Nat → Int32) (T y : Int32) : Int64 := if sp_isnum y = 0 then -2 else sp_row K P seed w T y
def sp_fsum (P : Nat) (su : Nat → Int64) (y : Int32) : Int64 := if sp_has P y = 0 then -1 else sp_sos P su y
def sp_fpart (K P : Nat) (su sy : Nat → Int64) (y : Int32) : Int64 := if sp_has (K + P) y = 0 then 0 else sp_part K P su sy y
def sp_fsym (K : Nat) (y : Int32) : Int32 := if sp_has K y = 0 then -1 else 1
/-- what a frame has ahead of its sum: the output and its size -/
def sp_frm (K P S : Nat) (seed : Int32) (w : Nat → Int32) (T : Int32) (su sy : Nat → Int64) (y : Int32) : Int64 × Nat := (sp_outl K P su sy (sp_row K P seed w T y) (K + P), S)
def sp_frb (ff : Nat → Int32) (q : Int64 × Nat) (y : Int32) : (Nat → Int32) × Nat := sp_fin 12 (sp_ap 12 q.1 q.2 (sp_ap 12 y.toInt64 2 (ff, 0)))
def sp_framef (flen : Nat) (ff : Nat → Int32) (q : Int64 × Nat) (y : Int32) : (Nat → Int32) × Nat := if sp_isnum y = 0 then (ff, flen) else sp_frb ff q y
def sp_framer (flen : Nat) (ff : Nat → Int32) (q : Int64 × Nat) (y : Int32) : Int32 := if sp_isnum y = 0 then -2 else nI (sp_frb ff q y).2
def sp_framei (j : Nat) (fs y : Int32) : Int32 := if sp_isnum y = 0 then fs else nI j
def sp_ftaken (Z : RcT) (y : Int32) : Int32 := if sp_has Z.2.2.2.2.1 y = 0 then -1 else Z.2.1 y.toNatClampNeg
def sp_fisk (K P : Nat) (Z : RcT) (y : Int32) : Int32 := if sp_has (K + P) y = 0 then -1 else if sp_alone Z.1.1 y = 0 then 0 else 1
def sp_fkn (Z : RcT) (y : Int32) : Int64 := if sp_alone Z.1.1 y = 0 then 0 else Z.1.2.1 y.toNatClampNeg
theorem sp_alone_in {rows : Nat → Int64} {i : Int32} (h : ¬ sp_alone rows i = 0) : vp_in i 40 := by
  unfold sp_alone at h
  by_cases h0 : i < 0
  · rw [if_pos h0] at h; exact absurd rfl h
  · rw [if_neg h0] at h
    by_cases h1 : (40 : Int32) ≤ i
    · rw [if_pos h1] at h; exact absurd rfl h
    · exact ku_in (len := 40) h0 h1 (Nat.le_refl 40) (by omega)
def sp_fpl (K P : Nat) (Q : Int64 × Int64 × Int64) (y : Int32) : Int32 := if sp_has (K + P) y = 0 then -1 else sp_pof Q y
def sp_fplo (K P : Nat) (old y : Int32) : Int32 := if sp_has (K + P) y = 0 then old else 0
def sp_fplp (K P : Nat) (Pl Q : Int64 × Int64 × Int64) (y : Int32) : Int64 × Int64 × Int64 := if sp_has (K + P) y = 0 then Pl else Q
def sp_z00 : RcT := ((fun _ => 0, fun _ => 0, 0, 0, 0), fun _ => 0, fun _ => 0, fun _ => 0, 0, 0)
def sp_srcr (cnt : Nat) (wt : Nat → Int32) (k p z : Int32) : Int32 := if k < 1 then -2 else if 32 < k then -2 else if p < 0 then -2 else if 8 < p then -2 else if z < 1 then -2 else if z ≤ 8 then (if bx_sum wt 12 = 0 then -3 else if nI cnt < 4 then 0 else -4) else -2
