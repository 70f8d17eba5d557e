theorem sp_has_nI {cnt j : Nat} (h : j < cnt) (hc : cnt < 2 ^ 31) : ¬ sp_has cnt (nI j) = 0 := by
  unfold sp_has
  rw [if_neg (nI_pos (by omega)), if_neg (by rw [nI_leI hc (by omega)]; omega)]
  decide
theorem sp_has_of {K : Nat} {i : Int32} (h0 : ¬ i < 0) (h1 : i < nI K) : ¬ sp_has K i = 0 := by
  unfold sp_has
  rw [if_neg h0, if_neg (Int32.not_le.mpr h1)]
  decide
def rs_low (S : Nat) (v : Int64) : Int64 := if nI S = 8 then v else v &&& (jv_lshl 1 (nI (8 * S)) - 1)
def rs_b (v : Int64) (k : Nat) : Nat := ((jv_lshr v (nI k)) &&& 1).toInt32.toNatClampNeg
def rs_cnt (v : Int64) : Nat → Nat
  | 0 => 0
  | k + 1 => rs_cnt v k + rs_b v k
theorem rs_and1 (x : Int64) : x &&& 1 = 0 ∨ x &&& 1 = 1 := by
  have h : (x &&& 1).toBitVec.toNat = x.toBitVec.toNat % 2 := by
    show (x.toBitVec &&& 1#64).toNat = _
    rw [BitVec.toNat_and]
    show x.toBitVec.toNat &&& 1 = _
    exact Nat.and_one_is_mod _
  rcases Nat.mod_two_eq_zero_or_one x.toBitVec.toNat with e | e
  · left
    apply Int64.toBitVec_inj.mp
    apply BitVec.eq_of_toNat_eq
    rw [h, e]; rfl
  · right
    apply Int64.toBitVec_inj.mp
    apply BitVec.eq_of_toNat_eq
    rw [h, e]; rfl
theorem rs_cnt_step (v : Int64) (k n : Nat) : nI n + ((jv_lshr v (nI k)) &&& 1).toInt32 = nI (n + rs_b v k) := by
  unfold rs_b
  rcases rs_and1 (jv_lshr v (nI k)) with e | e
  · rw [e]; exact nI_add n 0
  · rw [e]; exact nI_add n 1
/-- the sum of the weights 1 .. d -/
def rs_ws (wN : Nat → Nat) : Nat → Nat
  | 0 => 0
  | d + 1 => rs_ws wN d + wN (d + 1)
theorem rs_rem (z : Int32) {d : Nat} (h0 : 0 < d) (hd : d < 2 ^ 31) : (jv_ushr z (1 : Int32)) - (jv_ushr z (1 : Int32)) / (nI d) * (nI d) = nI (sp_dn z % d) := by
  rw [sp_ushr1, pk_rem (sp_dn_lt z) h0 hd]
def rs_sb (z : Int32) : Nat → Int64
  | 0 => 0
  | k + 1 => rs_sb z k ||| jv_lshl (((jv_ushr (sp_next (sp_z z k)) (1 : Int32)) >>> ((30 : Int32) &&& 31)) &&& 1).toInt64 (nI k)
/-- the first degree whose sum of weights is above t -/
def rs_dg (wN : Nat → Nat) (t : Nat) : Nat → Nat → Nat
  | 0, d => d
  | n + 1, d => if rs_ws wN d ≤ t then rs_dg wN t n (d + 1) else d
theorem rs_dg_end {wN : Nat → Nat} {t n d r : Nat} (h : rs_dg wN t n d = r) (h2 : ¬ rs_ws wN d ≤ t) : r = d := by
  rw [← h]
  cases n with
  | zero => rfl
  | succ n => exact if_neg h2
theorem rs_lt12 {wN : Nat → Nat} {so t dg : Nat} (hso : so = rs_ws wN dg) (hle : so ≤ t) (hT : t < rs_ws wN 12) (hdg : dg ≤ 12) : dg < 12 := by
  rcases Nat.lt_or_ge dg 12 with q | q
  · exact q
  · rw [hso, show dg = 12 from by omega] at hle; omega
def rs_wn (KP d : Nat) : Nat := if KP ≤ d then KP else d
theorem rs_wn_le (KP d : Nat) : rs_wn KP d ≤ KP := by
  unfold rs_wn
  split <;> omega
def rs_row (K P : Nat) (seed : Int32) (wN : Nat → Nat) (x : Int32) : Int64 := if nI K ≤ x then sp_rowl (K + P) (rs_wn (K + P) (rs_dg wN (sp_dn (sp_next (seed ^^^ (x * 40503))) % rs_ws wN 12) 12 0)) (sp_next (seed ^^^ (x * 40503))) 0 else jv_lshl 1 x
/-- how many of the first n bits are there -/
def rs_cb (y : Int64) : Nat → Nat
  | 0 => 0
  | n + 1 => if sp_bit y (nI n) = 0 then rs_cb y n else rs_cb y n + 1
theorem rs_fo_s {KP n i : Nat} {y : Int64} (hi : i < KP) (h : ¬ sp_bit y (nI i) = 0) : sp_fo KP y (n + 1) i = sp_fo KP y n ((i + 1) % KP) := by
  show (if sp_bit y (nI i) = 0 then i else sp_fo KP y n (if KP ≤ i + 1 then 0 else i + 1)) = _
  rw [if_neg h]
  congr 1
  by_cases h2 : KP ≤ i + 1
  · rw [if_pos h2, show i + 1 = KP from by omega, Nat.mod_self]
  · rw [if_neg h2, Nat.mod_eq_of_lt (by omega)]
theorem rs_cb_0 {n : Nat} (h : n ≤ 64) : rs_cb 0 n = 0 := by
  induction n with
  | zero => rfl
  | succ n ih =>
    show (if sp_bit 0 (nI n) = 0 then rs_cb 0 n else rs_cb 0 n + 1) = 0
    rw [if_pos ((gb_bit 0 (by omega)).mpr (gb_0 n))]
    exact ih (by omega)
theorem rs_cb_set {y : Int64} {i : Nat} (hi : i < 64) (h0 : gb y i = false) : ∀ n, n ≤ 64 → rs_cb (y ||| jv_lshl 1 (nI i)) n = rs_cb y n + (if i < n then 1 else 0) := by
  intro n
  induction n with
  | zero => intro _; rfl
  | succ n ih =>
    intro hn
    show (if sp_bit (y ||| jv_lshl 1 (nI i)) (nI n) = 0 then _ else _) = (if sp_bit y (nI n) = 0 then _ else _) + _
    rw [ih (by omega)]
    have e : gb (y ||| jv_lshl 1 (nI i)) n = (gb y n || decide (n = i)) := by rw [gb_or, gb_lshl1 hi (by omega)]
    by_cases h1 : n = i
    · subst h1
      rw [if_neg (mt (gb_bit _ hi).mp (by rw [e]; simp)), if_pos ((gb_bit _ hi).mpr h0), if_neg (by omega), if_pos (by omega)]
    · by_cases h2 : gb y n = false
      · rw [if_pos ((gb_bit _ (by omega)).mpr (by rw [e, h2, decide_eq_false h1]; rfl)), if_pos ((gb_bit _ (by omega)).mpr h2)]
        by_cases h3 : i < n
        · rw [if_pos h3, if_pos (by omega)]
        · rw [if_neg h3, if_neg (by omega)]
      · rw [if_neg (mt (gb_bit _ (by omega)).mp (by rw [e, gb_nt h2]; simp)), if_neg (mt (gb_bit _ (by omega)).mp h2)]
        by_cases h3 : i < n
        · rw [if_pos h3, if_pos (by omega)]
        · rw [if_neg h3, if_neg (by omega)]
theorem rs_cb_all {y : Int64} : ∀ n, n ≤ 64 → (∀ i, i < n → gb y i = true) → rs_cb y n = n := by
  intro n
  induction n with
  | zero => intro _ _; rfl
  | succ n ih =>
    intro hn h
    show (if sp_bit y (nI n) = 0 then _ else _) = n + 1
    rw [if_neg (mt (gb_bit _ (by omega)).mp (by rw [h n (by omega)]; decide)), ih (by omega) (fun i hi => h i (by omega))]
theorem rs_fo_find {KP : Nat} {y : Int64} (hK : KP ≤ 64) : ∀ n i d, i < KP → d ≤ n → gb y ((i + d) % KP) = false → gb y (sp_fo KP y n i) = false := by
  intro n
  induction n with
  | zero =>
    intro i d hi hd h
    have e : d = 0 := by omega
    subst e
    rw [Nat.add_zero, Nat.mod_eq_of_lt hi] at h
    exact h
  | succ n ih =>
    intro i d hi hd h
    by_cases h1 : gb y i = false
    · show gb y (if sp_bit y (nI i) = 0 then i else _) = false
      rw [if_pos ((gb_bit y (by omega)).mpr h1)]; exact h1
    · have hb : ¬ sp_bit y (nI i) = 0 := mt (gb_bit y (by omega)).mp h1
      rw [rs_fo_s hi hb]
      cases d with
      | zero => rw [Nat.add_zero, Nat.mod_eq_of_lt hi] at h; exact absurd h h1
      | succ d =>
        refine ih _ d (Nat.mod_lt _ (by omega)) (by omega) ?_
        rw [Nat.mod_add_mod, show i + 1 + d = i + (d + 1) from by omega]; exact h
theorem rs_cb_s {y : Int64} {KP k i : Nat} (h : rs_cb y KP = k) (h0 : sp_bit y (nI (sp_fo KP y KP i)) = 0) (hl : sp_fo KP y KP i < KP) (h4 : KP ≤ 40) : rs_cb (y ||| jv_lshl 1 (nI (sp_fo KP y KP i))) KP = k + 1 := by
  rw [rs_cb_set (by omega) ((gb_bit y (by omega)).mp h0) KP (by omega), if_pos hl, h]
theorem rs_free {y : Int64} {KP k i : Nat} (h : rs_cb y KP = k) (hk : k < KP) (hi : i < KP) (h4 : KP ≤ 40) : sp_bit y (nI (sp_fo KP y KP i)) = 0 := by
  have hex : ∃ p, p < KP ∧ gb y p = false := by
    apply Classical.byContradiction
    intro hn
    have := rs_cb_all (y := y) KP (by omega) (fun i hi => gb_nt (fun e => hn ⟨i, hi, e⟩))
    omega
  obtain ⟨p, hp, hg⟩ := hex
  have hlt := sp_fo_lt (KP := KP) (bits := y) (by omega) KP i hi
  refine (gb_bit y (by omega)).mpr (rs_fo_find (by omega) KP i ((p + KP - i) % KP) hi (Nat.le_of_lt (Nat.mod_lt _ (by omega))) ?_)
  rw [Nat.add_mod_mod, show i + (p + KP - i) = p + KP from by omega, Nat.add_mod_right, Nat.mod_eq_of_lt hp]; exact hg
theorem rs_bit0 {y : Int64} {i : Nat} (hi : i < 64) (h : ¬ lg_cmp ((jv_lshr y (nI i)) &&& 1) 1 = 0) : sp_bit y (nI i) = 0 := (gb_bit y hi).mpr (gb_nf (fun e => h ((gb_t1 y hi).mpr e)))
theorem rs_bit1 {y : Int64} {i : Nat} (hi : i < 64) (h : lg_cmp ((jv_lshr y (nI i)) &&& 1) 1 = 0) : ¬ sp_bit y (nI i) = 0 := fun q => by
  have a := (gb_t1 y hi).mp h
  rw [(gb_bit y hi).mp q] at a
  cases a
theorem rs_fo_end {KP n i r : Nat} {y : Int64} (h : sp_fo KP y n i = r) (h0 : sp_bit y (nI i) = 0) : r = i := by
  rw [← h]
  cases n with
  | zero => rfl
  | succ n => exact if_pos h0
theorem rs_fo_lt {KP q i r : Nat} {y : Int64} (hq : q ≤ KP) (h : sp_fo KP y (KP - q) i = r) (hb : ¬ sp_bit y (nI i) = 0) (hf : sp_bit y (nI r) = 0) : q < KP := by
  rcases Nat.lt_or_ge q KP with c | c
  · exact c
  · rw [show KP - q = 0 from by omega] at h
    have e : r = i := h.symm
    rw [e] at hf
    exact absurd hf hb
def rs_all (syf : Nat → Int64) (j : Nat) (row : Int64) : Nat → Int64
  | 0 => 0
  | k + 1 => if lg_cmp ((jv_lshr row (nI k)) &&& 1) 1 = 0 then rs_all syf j row k ^^^ syf (32 * j + k) else rs_all syf j row k ^^^ 0
def rs_part (syf : Nat → Int64) (j K : Nat) (seed : Int32) (ii : Nat) : Int64 := if K ≤ ii then rs_all syf j (rs_sb (seed + (40503 * ((nI ii - nI K) + 1))) K) K else syf (32 * j + ii)
def rs_out (syf : Nat → Int64) (j K : Nat) (seed : Int32) (row : Int64) : Nat → Int64
  | 0 => rs_all syf j row K
  | k + 1 => if lg_cmp ((jv_lshr row (nI (K + k))) &&& 1) 1 = 0 then rs_out syf j K seed row k ^^^ rs_all syf j (rs_sb (seed + (40503 * (nI k + 1))) K) K else rs_out syf j K seed row k ^^^ 0
def rs_crc (f : Nat → Int32) : Nat → Int32
  | 0 => 65535
  | k + 1 => sp_crcb (rs_crc f k ^^^ ((f k) <<< ((8 : Int32) &&& 31))) 8
theorem rs_in {i : Int32} {n N : Nat} (h0 : ¬ i < 0) (h1 : i < nI n) (hn : n ≤ N) (hN : N < 2 ^ 31 := by decide) : vp_in i N := by
  obtain ⟨j, hj, rfl⟩ := nI_of h0
  have h2 : j < n := (nI_ltI hj (by omega)).mp h1
  exact vp_in_nI (by omega) hN
def rs_fby (hf : Int32) (fsz : Nat) (frf : Nat → Int32) (i : Int32) : Int32 := if hf = 0 then -3 else if i < 0 then -1 else if i < nI fsz then frf i.toNatClampNeg else -1
def rs_pokef (hf : Int32) (fsz : Nat) (frf : Nat → Int32) (i v : Int32) : Nat → Int32 := if hf = 0 then frf else if i < 0 then frf else if i < nI fsz then upd frf i.toNatClampNeg (frf i.toNatClampNeg ^^^ (v &&& 255)) else frf
def rs_poker (hf : Int32) (fsz : Nat) (frf : Nat → Int32) (i v : Int32) : Int32 := if hf = 0 then -3 else if i < 0 then -1 else if i < nI fsz then (upd frf i.toNatClampNeg (frf i.toNatClampNeg ^^^ (v &&& 255))) i.toNatClampNeg else -1
def rs_signr (hf : Int32) (fsz : Nat) (frf : Nat → Int32) : Int32 := if hf = 0 then -3 else rs_crc frf (fsz - 2)
def rs_signf (hf : Int32) (fsz : Nat) (frf : Nat → Int32) : Nat → Int32 := if hf = 0 then frf else upd (upd frf (fsz - 2) ((rs_crc frf (fsz - 2)) >>> ((8 : Int32) &&& 31))) (fsz - 1) ((rs_crc frf (fsz - 2)) &&& 255)
def rs_red (hd : Nat → Int64) (row : Int64) : Nat → Int64
  | 0 => row
  | k + 1 => if lg_cmp ((jv_lshr (rs_red hd row k) (nI k)) &&& 1) 1 = 0 then (if lg_cmp (hd k) 0 = 0 then rs_red hd row k else rs_red hd row k ^^^ hd k) else rs_red hd row k
def rs_redv (hd vl : Nat → Int64) (row val : Int64) : Nat → Int64
  | 0 => val
  | k + 1 => if lg_cmp ((jv_lshr (rs_red hd row k) (nI k)) &&& 1) 1 = 0 then (if lg_cmp (hd k) 0 = 0 then rs_redv hd vl row val k else rs_redv hd vl row val k ^^^ vl k) else rs_redv hd vl row val k
def rs_lo (lf : Int64) : Nat → Nat → Nat
  | 0, i => i
  | n + 1, i => if lg_cmp ((jv_lshr lf (nI i)) &&& 1) 0 = 0 then rs_lo lf n (i + 1) else i
theorem rs_lo_end {lf : Int64} {k r : Nat} (h : rs_lo lf (40 - k) k = r) (h2 : 40 - k = 0 ∨ ¬ lg_cmp ((jv_lshr lf (nI k)) &&& 1) 0 = 0) : r = k := by
  rw [← h]
  rcases h2 with e | e
  · rw [e]; rfl
  · cases 40 - k with
    | zero => rfl
    | succ n => exact if_neg e
def rs_adds (S : SpS) (row val : Int64) : SpS := if 40 ≤ rs_lo (rs_red S.1 row 40) 40 0 then (S.1, S.2.1, S.2.2.1, rs_red S.1 row 40, rs_redv S.1 S.2.1 row val 40) else (vp_updL S.1 (rs_lo (rs_red S.1 row 40) 40 0) (rs_red S.1 row 40), vp_updL S.2.1 (rs_lo (rs_red S.1 row 40) 40 0) (rs_redv S.1 S.2.1 row val 40), S.2.2.1 + 1, rs_red S.1 row 40, rs_redv S.1 S.2.1 row val 40)
def rs_rowat (K P : Nat) (seed : Int32) (wN : Nat → Nat) (j : Nat) (xsf : Nat → Int32) (q : Nat) : Int64 := if P ≤ q then rs_row K P seed wN (xsf (64 * j + q - P)) else rs_sb (seed + (40503 * (nI q + 1))) K ||| jv_lshl 1 (nI (K + q))
def rs_val (P j : Nat) (ouf : Nat → Int64) (q : Nat) : Int64 := if P ≤ q then ouf (64 * j + q - P) else 0
def rs_bld0 (S : SpS) : SpS := (sp_clr S.1 40, S.2.1, 0, S.2.2.2.1, S.2.2.2.2)
def rs_bld (K P : Nat) (seed : Int32) (wN : Nat → Nat) (j : Nat) (xsf : Nat → Int32) (ouf : Nat → Int64) (S : SpS) : Nat → SpS
  | 0 => rs_bld0 S
  | q + 1 => rs_adds (rs_bld K P seed wN j xsf ouf S q) (rs_rowat K P seed wN j xsf q) (rs_val P j ouf q)
def rs_was (xsf : Nat → Int32) (j : Nat) (x : Int32) : Nat → Nat → Int32
  | 0, _ => 0
  | n + 1, k => if xsf (64 * j + k) = x then 1 else rs_was xsf j x n (k + 1)
def rs_contra (S : SpS) (row v : Int64) : Int32 := if lg_cmp (rs_red S.1 row 40) 0 = 0 then (if lg_cmp (rs_redv S.1 S.2.1 row v 40) 0 = 0 then 0 else 1) else 0
def rs_knows (hd : Nat → Int64) (ii : Nat) : Int32 := if lg_cmp (rs_red hd (jv_lshl 1 (nI ii)) 40) 0 = 0 then 1 else 0
