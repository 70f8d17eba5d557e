theorem sp_has_nI {cnt j : Nat} (h : j < cnt) (hc : cnt < 2 ^ 31) : ¬ sp_has cnt (nI j) = 0 := by
  unfold sp_has
  rw [if_neg (nI_pos (by omega)), if_neg (by rw [nI_leI hc (by omega)]; omega)]
  decide
theorem sp_has_of {K : Nat} {i : Int32} (h0 : ¬ i < 0) (h1 : i < nI K) : ¬ sp_has K i = 0 := by
  unfold sp_has
  rw [if_neg h0, if_neg (Int32.not_le.mpr h1)]
  decide
def rs_low (S : Nat) (v : Int64) : Int64 := if nI S = 8 then v else v &&& (jv_lshl 1 (nI (8 * S)) - 1)
def rs_b (v : Int64) (k : Nat) : Nat := ((jv_lshr v (nI k)) &&& 1).toInt32.toNatClampNeg
def rs_cnt (v : Int64) : Nat → Nat
  | 0 => 0
  | k + 1 => rs_cnt v k + rs_b v k
theorem rs_and1 (x : Int64) : x &&& 1 = 0 ∨ x &&& 1 = 1 := by
  have h : (x &&& 1).toBitVec.toNat = x.toBitVec.toNat % 2 := by
    show (x.toBitVec &&& 1#64).toNat = _
    rw [BitVec.toNat_and]
    show x.toBitVec.toNat &&& 1 = _
    exact Nat.and_one_is_mod _
  rcases Nat.mod_two_eq_zero_or_one x.toBitVec.toNat with e | e
  · left
    apply Int64.toBitVec_inj.mp
    apply BitVec.eq_of_toNat_eq
    rw [h, e]; rfl
  · right
    apply Int64.toBitVec_inj.mp
    apply BitVec.eq_of_toNat_eq
    rw [h, e]; rfl
theorem rs_cnt_step (v : Int64) (k n : Nat) : nI n + ((jv_lshr v (nI k)) &&& 1).toInt32 = nI (n + rs_b v k) := by
  unfold rs_b
  rcases rs_and1 (jv_lshr v (nI k)) with e | e
  · rw [e]; exact nI_add n 0
  · rw [e]; exact nI_add n 1
/-- the sum of the weights 1 .. d -/
def rs_ws (wN : Nat → Nat) : Nat → Nat
  | 0 => 0
  | d + 1 => rs_ws wN d + wN (d + 1)
theorem rs_rem (z : Int32) {d : Nat} (h0 : 0 < d) (hd : d < 2 ^ 31) : (jv_ushr z (1 : Int32)) - (jv_ushr z (1 : Int32)) / (nI d) * (nI d) = nI (sp_dn z % d) := by
  rw [sp_ushr1, pk_rem (sp_dn_lt z) h0 hd]
def rs_sb (z : Int32) : Nat → Int64
  | 0 => 0
  | k + 1 => rs_sb z k ||| jv_lshl (((jv_ushr (sp_next (sp_z z k)) (1 : Int32)) >>> ((30 : Int32) &&& 31)) &&& 1).toInt64 (nI k)
/-- the first degree whose sum of weights is above t -/
def rs_dg (wN : Nat → Nat) (t : Nat) : Nat → Nat → Nat
  | 0, d => d
  | n + 1, d => if rs_ws wN d ≤ t then rs_dg wN t n (d + 1) else d
theorem rs_dg_end {wN : Nat → Nat} {t n d r : Nat} (h : rs_dg wN t n d = r) (h2 : ¬ rs_ws wN d ≤ t) : r = d := by
  rw [← h]
  cases n with
  | zero => rfl
  | succ n => exact if_neg h2
def rs_wn (KP d : Nat) : Nat := if KP ≤ d then KP else d
theorem rs_wn_le (KP d : Nat) : rs_wn KP d ≤ KP := by
  unfold rs_wn
  split <;> omega
def rs_row (K P : Nat) (seed : Int32) (wN : Nat → Nat) (x : Int32) : Int64 := if nI K ≤ x then sp_rowl (K + P) (rs_wn (K + P) (rs_dg wN (sp_dn (sp_next (seed ^^^ (x * 40503))) % rs_ws wN 12) 12 0)) (sp_next (seed ^^^ (x * 40503))) 0 else jv_lshl 1 x
/-- how many of the first n bits are there -/
def rs_cb (y : Int64) : Nat → Nat
  | 0 => 0
  | n + 1 => if sp_bit y (nI n) = 0 then rs_cb y n else rs_cb y n + 1
theorem rs_cb_0 (n : Nat) : rs_cb 0 n = 0 := sorry
theorem rs_cb_s {y : Int64} {KP k i : Nat} (h : rs_cb y KP = k) (h0 : sp_bit y (nI (sp_fo KP y KP i)) = 0) (hl : sp_fo KP y KP i < KP) (h4 : KP ≤ 40) : rs_cb (y ||| jv_lshl 1 (nI (sp_fo KP y KP i))) KP = k + 1 := sorry
theorem rs_free {y : Int64} {KP k i : Nat} (h : rs_cb y KP = k) (hk : k < KP) (hi : i < KP) : sp_bit y (nI (sp_fo KP y KP i)) = 0 := sorry
theorem rs_bit0 {y : Int64} {i : Nat} (hi : i < 64) (h : ¬ lg_cmp ((jv_lshr y (nI i)) &&& 1) 1 = 0) : sp_bit y (nI i) = 0 := sorry
theorem rs_bit1 {y : Int64} {i : Nat} (hi : i < 64) (h : lg_cmp ((jv_lshr y (nI i)) &&& 1) 1 = 0) : ¬ sp_bit y (nI i) = 0 := sorry
theorem rs_fo_end {KP n i r : Nat} {y : Int64} (h : sp_fo KP y n i = r) (h0 : sp_bit y (nI i) = 0) : r = i := by
  rw [← h]
  cases n with
  | zero => rfl
  | succ n => exact if_pos h0
theorem rs_fo_s {KP n i : Nat} {y : Int64} (hi : i < KP) (h : ¬ sp_bit y (nI i) = 0) : sp_fo KP y (n + 1) i = sp_fo KP y n ((i + 1) % KP) := by
  show (if sp_bit y (nI i) = 0 then i else sp_fo KP y n (if KP ≤ i + 1 then 0 else i + 1)) = _
  rw [if_neg h]
  congr 1
  by_cases h2 : KP ≤ i + 1
  · rw [if_pos h2, show i + 1 = KP from by omega, Nat.mod_self]
  · rw [if_neg h2, Nat.mod_eq_of_lt (by omega)]
theorem rs_fo_lt {KP q i r : Nat} {y : Int64} (hq : q ≤ KP) (h : sp_fo KP y (KP - q) i = r) (hb : ¬ sp_bit y (nI i) = 0) (hf : sp_bit y (nI r) = 0) : q < KP := by
  rcases Nat.lt_or_ge q KP with c | c
  · exact c
  · rw [show KP - q = 0 from by omega] at h
    have e : r = i := h.symm
    rw [e] at hf
    exact absurd hf hb
