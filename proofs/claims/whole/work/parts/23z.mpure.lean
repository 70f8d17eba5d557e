def rs_iby (isz : Nat) (imf : Nat → Int32) (i : Int32) : Int32 := if i < 0 then -1 else if i < nI isz then imf i.toNatClampNeg else -1
def rs_sbf (isz : Nat) (imf : Nat → Int32) (i v : Int32) : Nat → Int32 := if i < 0 then imf else if i < nI isz then upd imf i.toNatClampNeg (v &&& 255) else imf
def rs_num (imf : Nat → Int32) (fr : Nat) : Nat → Int64
  | 0 => 0
  | k + 1 => jv_lshl (rs_num imf fr k) (8 : Int32) ||| (imf (fr + k)).toInt64
def rs_say (v : Int64) : Nat → (Nat → Int32) → Nat → (Nat → Int32) × Nat
  | 0, f, n => (f, n)
  | r + 1, f, n => rs_say v r (upd f n ((jv_lshr v (nI (8 * r))).toInt32 &&& 255)) (n + 1)
theorem rs_say_2 (v : Int64) : ∀ (r : Nat) (f : Nat → Int32) (n : Nat), (rs_say v r f n).2 = n + r := by
  intro r
  induction r with
  | zero => intro f n; rfl
  | succ r ih => intro f n; show (rs_say v r _ (n + 1)).2 = _; rw [ih]; omega
def rs_sy (v : Int64) (cn : Nat) (B : (Nat → Int32) × Nat) : (Nat → Int32) × Nat := rs_say v cn B.1 B.2
def rs_im5 (K P S : Nat) (seed : Int32) (tk : Nat) (f : Nat → Int32) : (Nat → Int32) × Nat := rs_sy (nI tk).toInt64 2 (rs_sy seed.toInt64 4 (rs_sy (nI S).toInt64 1 (rs_sy (nI P).toInt64 1 (rs_sy (nI K).toInt64 1 (f, 0)))))
def rs_im1 (S j : Nat) (xsf : Nat → Int32) (ouf : Nat → Int64) (k : Nat) (B : (Nat → Int32) × Nat) : (Nat → Int32) × Nat := rs_sy (ouf (64 * j + k)) S (rs_sy (xsf (64 * j + k)).toInt64 2 B)
def rs_iml (S j : Nat) (xsf : Nat → Int32) (ouf : Nat → Int64) (B : (Nat → Int32) × Nat) : Nat → (Nat → Int32) × Nat
  | 0 => B
  | k + 1 => rs_im1 S j xsf ouf k (rs_iml S j xsf ouf B k)
def rs_im (K P S : Nat) (seed : Int32) (tk j : Nat) (xsf : Nat → Int32) (ouf : Nat → Int64) (f : Nat → Int32) : (Nat → Int32) × Nat := (fun B => rs_sy (rs_crc B.1 B.2).toInt64 2 B) (rs_iml S j xsf ouf (rs_im5 K P S seed tk f) tk)
def rs_frl (v : Int64) (S : Nat) (f : Nat → Int32) : Nat → (Nat → Int32)
  | 0 => f
  | k + 1 => upd (rs_frl v S f k) (2 + k) ((jv_lshr v (8 * ((nI S - 1) - nI k))).toInt32 &&& 255)
/-- heads and values behind a test of a row -/
def rs_cS (S : SpS) (row v : Int64) : SpS := (S.1, S.2.1, S.2.2.1, rs_red S.1 row 40, rs_redv S.1 S.2.1 row v 40)
def rs_take (K P S : Nat) (seed : Int32) (wN : Nat → Nat) (j : Nat) (frf wrf xsf : Nat → Int32) (ouf : Nat → Int64) (tkf : Nat → Int32) (tk : Nat) (S1 : SpS) : Int32 × (Nat → Int32) × (Nat → Int32) × (Nat → Int64) × (Nat → Int32) :=
  if frf (S + 4 - 2) = (rs_crc frf (S + 4 - 2)) >>> ((8 : Int32) &&& 31) then (if frf (S + 4 - 1) = (rs_crc frf (S + 4 - 2)) &&& 255 then (if rs_was xsf j (((frf 0) <<< ((8 : Int32) &&& 31)) ||| (frf 1)) tk 0 = 0 then (if nI tk = 64 then (-4, wrf, xsf, ouf, tkf) else if rs_contra (rs_bld K P seed wN j xsf ouf S1 (P + tk)) (rs_row K P seed wN (((frf 0) <<< ((8 : Int32) &&& 31)) ||| (frf 1))) (rs_num frf 2 S) = 0 then (nI (rs_bld K P seed wN j (upd xsf (64 * j + tk) (((frf 0) <<< ((8 : Int32) &&& 31)) ||| (frf 1))) (vp_updL ouf (64 * j + tk) (rs_num frf 2 S)) (rs_cS (rs_bld K P seed wN j xsf ouf S1 (P + tk)) (rs_row K P seed wN (((frf 0) <<< ((8 : Int32) &&& 31)) ||| (frf 1))) (rs_num frf 2 S)) (P + (tk + 1))).2.2.1, wrf, upd xsf (64 * j + tk) (((frf 0) <<< ((8 : Int32) &&& 31)) ||| (frf 1)), vp_updL ouf (64 * j + tk) (rs_num frf 2 S), upd tkf j (nI (tk + 1))) else (-7, upd wrf (3 * j + 2) (wrf (3 * j + 2) + 1), xsf, ouf, tkf)) else (-6, upd wrf (3 * j + 1) (wrf (3 * j + 1) + 1), xsf, ouf, tkf)) else (-5, upd wrf (3 * j) (wrf (3 * j) + 1), xsf, ouf, tkf)) else (-5, upd wrf (3 * j) (wrf (3 * j) + 1), xsf, ouf, tkf)
