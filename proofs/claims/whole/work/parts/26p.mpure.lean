def rs_stc (f : Nat → Int32) (of_ : Int32) : Nat → Nat
  | 0 => 0
  | k + 1 => if f k = of_ then rs_stc f of_ k + 1 else rs_stc f of_ k + 0
def rs_isk (S : SpS) (ii : Nat) : Int32 := if rs_knows S.1 ii = 0 then 0 else 1
def rs_kn (S : SpS) (ii : Nat) : Int64 := if rs_knows S.1 ii = 0 then 0 else rs_redv S.1 S.2.1 (jv_lshl 1 (nI ii)) 0 40
def rs_kc (hd : Nat → Int64) : Nat → Nat
  | 0 => 0
  | k + 1 => if rs_knows hd k = 0 then rs_kc hd k + 0 else rs_kc hd k + 1
def rs_told (S : SpS) (tk KP : Nat) (wrf : Nat → Int32) (j : Nat) (sts : Nat → Int32) (wh : Int32) : Int32 :=
  if wh = 0 then nI S.2.2.1 else if wh = 1 then nI tk else if wh = 2 then (if nI S.2.2.1 = nI KP then 1 else 0) else if wh = 3 then nI (rs_kc S.1 KP) else if 7 ≤ wh then wrf (((3 * j) + wh.toNatClampNeg) - 7) else if wh = 4 then nI (rs_stc sts 1 KP) else if wh = 5 then nI (rs_stc sts 2 KP) else nI (rs_stc sts 0 KP)
theorem rs_w79 {wh : Int32} (h : ¬ wh < 0 ∧ wh ≤ 9) (h7 : 7 ≤ wh) : ∃ w : Nat, 7 ≤ w ∧ w ≤ 9 ∧ wh = nI w := by
  obtain ⟨w, hw, rfl⟩ := nI_of h.1
  exact ⟨w, (nI_leI (a := 7) (b := w) (by omega) hw).mp h7, (nI_leI (a := w) (b := 9) hw (by omega)).mp h.2, rfl⟩
theorem rs_deg_in {d : Int32} (h1 : ¬ d < 1) (h2 : d ≤ 12) : vp_in d 13 := by
  have h0 : ¬ d < 0 := fun h => h1 (by
    rw [Int32.lt_iff_toInt_lt] at h ⊢
    have e0 : (0 : Int32).toInt = 0 := rfl
    have e1 : (1 : Int32).toInt = 1 := rfl
    omega)
  obtain ⟨j, hj, rfl⟩ := nI_of h0
  have a2 : j ≤ 12 := (nI_leI (a := j) (b := 12) hj (by omega)).mp h2
  exact vp_in_nI (by omega) (by omega)
def rs_degr (wt : Nat → Int32) (d v : Int32) : Int32 := if d < 1 then -1 else if d ≤ 12 then (if v < 0 then -2 else if v ≤ 100 then wt d.toNatClampNeg else -2) else -1
def rs_degw (wt : Nat → Int32) (d v : Int32) : Nat → Int32 := if d < 1 then wt else if d ≤ 12 then (if v < 0 then wt else if v ≤ 100 then upd wt d.toNatClampNeg v else wt) else wt
def rs_wsum (wt : Nat → Int32) : Nat → Int32
  | 0 => 0
  | d + 1 => rs_wsum wt d + wt (d + 1)
def rs_srcr (cnt : Nat) (wt : Nat → Int32) (k p z : Int32) : Int32 := if k < 1 then -2 else if 32 < k then -2 else if p < 0 then -2 else if 8 < p then -2 else if z < 1 then -2 else if z ≤ 8 then (if rs_wsum wt 12 = 0 then -3 else if nI cnt = 4 then -4 else 0) else -2
def rs_cpt (wt : Nat → Int32) (c : Nat) (f : Nat → Int32) : Nat → (Nat → Int32)
  | 0 => f
  | k + 1 => upd (rs_cpt wt c f k) (13 * c + k) (wt k)
def rs_zs (c : Nat) (f : Nat → Int64) : Nat → (Nat → Int64)
  | 0 => f
  | k + 1 => vp_updL (rs_zs c f k) (32 * c + k) 0
def rs_zw (c : Nat) (f : Nat → Int32) : Nat → (Nat → Int32)
  | 0 => f
  | k + 1 => upd (rs_zw c f k) (3 * c + k) 0
def rs_wt0 : Nat → Int32 := upd (upd (upd (upd (upd (upd (upd (upd (upd (upd (upd (upd (fun _ => 0) 1 1) 2 50) 3 17) 4 8) 5 5) 6 3) 7 2) 8 2) 9 1) 10 1) 11 1) 12 9
