/-! what the class draws and what the reference draws are the same -/
theorem eq_lshl0 (y : Int32) : jv_lshl 0 y = 0 := by
  unfold jv_lshl
  apply Int64.toBitVec_inj.mp
  rw [Int64.toBitVec_shiftLeft]
  show (0#64) <<< _ = 0#64
  rw [BitVec.shiftLeft_eq']
  simp
theorem eq_or0 (x : Int64) : x ||| 0 = x := by
  apply gb_ext
  intro i _
  rw [gb_or, gb_0, Bool.or_false]
theorem eq_xor0 (x : Int64) : x ^^^ 0 = x := by
  apply gb_ext
  intro i _
  rw [gb_xor, gb_0, Bool.xor_false]
theorem eq_gbN {n : Nat} (h : n < 2 ^ 31) (i : Nat) : gb (nI n).toInt64 i = n.testBit i := by
  rw [nI_l h]
  unfold gb
  show (BitVec.ofNat 64 n).getLsbD i = _
  rw [← BitVec.testBit_toNat, BitVec.toNat_ofNat, Nat.mod_eq_of_lt (by omega)]
theorem eq_t30 {d : Nat} (h : d < 2 ^ 31) : d.testBit 30 = decide (2 ^ 30 ≤ d) := by
  rw [Nat.testBit_eq_decide_div_mod_eq]
  by_cases c : 2 ^ 30 ≤ d
  · rw [decide_eq_true c]
    have : d / 2 ^ 30 = 1 := by omega
    rw [this]; rfl
  · rw [decide_eq_false c]
    have : d / 2 ^ 30 = 0 := by omega
    rw [this]; rfl
theorem eq_draw (z : Int32) : ∀ k, k ≤ 32 → sp_drawb z k = rs_sb z k := by
  intro k
  induction k with
  | zero => intro _; rfl
  | succ k ih =>
    intro hk
    show (if sp_bit (jv_ushr (sp_z z (k + 1)) (1 : Int32)).toInt64 30 = 0 then sp_drawb z k else sp_drawb z k ||| jv_lshl 1 (nI k)) = rs_sb z k ||| jv_lshl (((jv_ushr (sp_next (sp_z z k)) (1 : Int32)) >>> ((30 : Int32) &&& 31)) &&& 1).toInt64 (nI k)
    rw [ih (by omega)]
    have e1 : sp_z z (k + 1) = sp_next (sp_z z k) := rfl
    rw [e1, sp_ushr1]
    have hd := sp_dn_lt (sp_next (sp_z z k))
    generalize sp_dn (sp_next (sp_z z k)) = d at hd ⊢
    have hb : sp_bit (nI d).toInt64 30 = 0 ↔ ¬ 2 ^ 30 ≤ d := by
      rw [show (30 : Int32) = nI 30 from rfl, gb_bit _ (by omega), eq_gbN hd, eq_t30 hd, decide_eq_false_iff_not]
    rw [pk_shrN hd ((30 : Int32) &&& 31) 30 (by decide), pk_andN (n := d / 2 ^ 30) (by omega) 1 (by decide)]
    by_cases c : 2 ^ 30 ≤ d
    · rw [if_neg (fun q => (hb.mp q) c), show d / 2 ^ 30 % 2 ^ 1 = 1 from by omega]; rfl
    · rw [if_pos (hb.mpr c), show d / 2 ^ 30 % 2 ^ 1 = 0 from by omega, show (nI 0).toInt64 = 0 from rfl, eq_lshl0, eq_or0]
/-- weights: the class's by places 0 .. 11, the reference's by degrees 1 .. 12, both as numbers wN 1 .. wN 12 -/
def eq_W (w : Nat → Int32) (wN : Nat → Nat) : Prop := ∀ d, d < 12 → w d = nI (wN (d + 1)) ∧ wN (d + 1) ≤ 100
theorem eq_ws {w : Nat → Int32} {wN : Nat → Nat} (h : eq_W w wN) : ∀ d, d ≤ 12 → bx_sum w d = nI (rs_ws wN d) ∧ rs_ws wN d ≤ 100 * d := by
  intro d
  induction d with
  | zero => intro _; exact ⟨rfl, Nat.zero_le _⟩
  | succ d ih =>
    intro hd
    obtain ⟨a, b⟩ := ih (by omega)
    obtain ⟨c, e⟩ := h d (by omega)
    refine ⟨?_, ?_⟩
    · show bx_sum w d + w d = nI (rs_ws wN d + wN (d + 1))
      rw [a, c, nI_add]
    · show rs_ws wN d + wN (d + 1) ≤ _
      omega
theorem eq_ws_mono {wN : Nat → Nat} : ∀ k d, rs_ws wN d ≤ rs_ws wN (d + k) := by
  intro k
  induction k with
  | zero => intro d; exact Nat.le_refl _
  | succ k ih =>
    intro d
    have := ih d
    show _ ≤ rs_ws wN (d + k) + wN (d + k + 1)
    omega
theorem eq_dg_fuel {wN : Nat → Nat} {t : Nat} (ht : t < rs_ws wN 12) : ∀ n d, 12 ≤ d + n → rs_dg wN t (n + 1) d = rs_dg wN t n d := by
  intro n
  induction n with
  | zero =>
    intro d hd
    have := eq_ws_mono (wN := wN) (d - 12) 12
    rw [show 12 + (d - 12) = d from by omega] at this
    exact if_neg (by omega)
  | succ n ih =>
    intro d hd
    show (if rs_ws wN d ≤ t then rs_dg wN t (n + 1) (d + 1) else d) = (if rs_ws wN d ≤ t then rs_dg wN t n (d + 1) else d)
    rw [ih (d + 1) (by omega)]
theorem eq_deg {w : Nat → Int32} {wN : Nat → Nat} {t : Nat} (h : eq_W w wN) (ht : t < rs_ws wN 12) : ∀ n d, d + n = 12 → rs_ws wN d ≤ t → sp_deg w (nI t) n d (nI (rs_ws wN d)) = rs_dg wN t n (d + 1) := by
  have hb := (eq_ws h 12 (by omega)).2
  intro n
  induction n with
  | zero =>
    intro d hd hle
    rw [show d = 12 from by omega] at hle
    omega
  | succ n ih =>
    intro d hd hle
    have hc := (h d (by omega))
    have e : nI (rs_ws wN d) + w d = nI (rs_ws wN (d + 1)) := by
      rw [hc.1, nI_add]; rfl
    have hb2 := (eq_ws h (d + 1) (by omega)).2
    show (if nI (rs_ws wN d) + w d ≤ nI t then sp_deg w (nI t) n (d + 1) (nI (rs_ws wN d) + w d) else d + 1) = (if rs_ws wN (d + 1) ≤ t then rs_dg wN t n (d + 1 + 1) else d + 1)
    rw [e]
    by_cases c : rs_ws wN (d + 1) ≤ t
    · rw [if_pos c, if_pos ((nI_leI (by omega) (by omega)).mpr c), ih (d + 1) (by omega) c]
    · rw [if_neg c, if_neg (mt (nI_leI (by omega) (by omega)).mp c)]
theorem eq_want {w : Nat → Int32} {wN : Nat → Nat} {KP : Nat} (h : eq_W w wN) (ht : 0 < rs_ws wN 12) (z : Int32) : sp_want KP w (nI (rs_ws wN 12)) z = rs_wn KP (rs_dg wN (sp_dn z % rs_ws wN 12) 12 0) := by
  have hb := (eq_ws h 12 (by omega)).2
  have hlt : sp_dn z % rs_ws wN 12 < rs_ws wN 12 := Nat.mod_lt _ ht
  have e1 : sp_deg w (sp_mod z (nI (rs_ws wN 12))) 12 0 0 = rs_dg wN (sp_dn z % rs_ws wN 12) 12 0 := by
    rw [sp_mod_nI z ht (by omega)]
    have a := eq_deg h hlt 12 0 rfl (Nat.zero_le _)
    have b := eq_dg_fuel hlt 11 1 (by omega)
    have c : rs_dg wN (sp_dn z % rs_ws wN 12) 12 0 = rs_dg wN (sp_dn z % rs_ws wN 12) 11 1 := if_pos (Nat.zero_le _)
    rw [c, ← b]
    exact a
  unfold sp_want rs_wn
  rw [e1]
  by_cases c : KP < rs_dg wN (sp_dn z % rs_ws wN 12) 12 0
  · rw [if_pos c, if_pos (by omega)]
  · rw [if_neg c]
    by_cases c2 : KP ≤ rs_dg wN (sp_dn z % rs_ws wN 12) 12 0
    · rw [if_pos c2]; omega
    · rw [if_neg c2]
theorem eq_has {K : Nat} {x : Int32} (h0 : ¬ x < 0) : sp_has K x = 0 ↔ nI K ≤ x := by
  unfold sp_has
  rw [if_neg h0]
  by_cases c : nI K ≤ x
  · rw [if_pos c]; exact ⟨fun _ => c, fun _ => rfl⟩
  · rw [if_neg c]; exact ⟨fun q => absurd q (by decide), fun q => absurd q c⟩
theorem eq_row {K P : Nat} {seed : Int32} {w : Nat → Int32} {wN : Nat → Nat} (h : eq_W w wN) (ht : 0 < rs_ws wN 12) {x : Int32} (h0 : ¬ x < 0) : sp_row K P seed w (nI (rs_ws wN 12)) x = rs_row K P seed wN x := by
  unfold sp_row rs_row
  by_cases c : nI K ≤ x
  · rw [if_pos c, if_pos ((eq_has h0).mpr c), eq_want h ht]
  · rw [if_neg c, if_neg (mt (eq_has h0).mp c)]
