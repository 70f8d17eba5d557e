def rs_rf (K P S : Nat) (seed : Int32) (isz : Nat) (imf : Nat → Int32) : Int32 := if 11 ≤ nI isz then (if imf 0 = nI K then (if imf 1 = nI P then (if imf 2 = nI S then (if (rs_num imf 3 4).toInt32 = seed then (if nI isz = 11 + ((rs_num imf 7 2).toInt32 * nI (2 + S)) then (if lg_cmp (rs_num imf (isz - 2) 2) (rs_crc imf (isz - 2)).toInt64 = 0 then 0 else -14) else -13) else -12) else -12) else -12) else -12) else -11
/-- one frame of an image: what was taken, its outputs, how many, and heads and values -/
def rs_res1 (K P : Nat) (seed : Int32) (wN : Nat → Nat) (j S : Nat) (imf : Nat → Int32) (k : Nat) (X : (Nat → Int32) × (Nat → Int64) × Nat × SpS) : (Nat → Int32) × (Nat → Int64) × Nat × SpS :=
  if rs_was X.1 j ((rs_num imf (9 + (k * (2 + S))) 2).toInt32) X.2.2.1 0 = 0 then (if 64 ≤ nI X.2.2.1 then X else if rs_contra (rs_bld K P seed wN j X.1 X.2.1 X.2.2.2 (P + X.2.2.1)) (rs_row K P seed wN ((rs_num imf (9 + (k * (2 + S))) 2).toInt32)) (rs_num imf (11 + (k * (2 + S))) S) = 0 then (upd X.1 (64 * j + X.2.2.1) ((rs_num imf (9 + (k * (2 + S))) 2).toInt32), vp_updL X.2.1 (64 * j + X.2.2.1) (rs_num imf (11 + (k * (2 + S))) S), X.2.2.1 + 1, rs_cS (rs_bld K P seed wN j X.1 X.2.1 X.2.2.2 (P + X.2.2.1)) (rs_row K P seed wN ((rs_num imf (9 + (k * (2 + S))) 2).toInt32)) (rs_num imf (11 + (k * (2 + S))) S)) else (X.1, X.2.1, X.2.2.1, rs_cS (rs_bld K P seed wN j X.1 X.2.1 X.2.2.2 (P + X.2.2.1)) (rs_row K P seed wN ((rs_num imf (9 + (k * (2 + S))) 2).toInt32)) (rs_num imf (11 + (k * (2 + S))) S))) else X
def rs_resl (K P : Nat) (seed : Int32) (wN : Nat → Nat) (j S : Nat) (imf : Nat → Int32) (xsf : Nat → Int32) (ouf : Nat → Int64) (S1 : SpS) : Nat → (Nat → Int32) × (Nat → Int64) × Nat × SpS
  | 0 => (xsf, ouf, 0, S1)
  | k + 1 => rs_res1 K P seed wN j S imf k (rs_resl K P seed wN j S imf xsf ouf S1 k)
theorem rs_uu (f : Nat → Int32) (k : Nat) (v w : Int32) : upd (upd f k v) k w = upd f k w := by
  funext q
  unfold upd
  by_cases h : q = k
  · rw [if_pos h, if_pos h]
  · rw [if_neg h, if_neg h, if_neg h]
