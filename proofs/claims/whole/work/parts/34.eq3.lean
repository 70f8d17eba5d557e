/-! bytes: the class's rows of bytes and the reference's arrays -/
theorem eq_at {len : Nat} {f : Nat → Int32} {k : Nat} (h : k < len) (hl : len < 2 ^ 31) : sp_at len f (nI k) = f k := by
  unfold sp_at
  rw [if_neg (sp_has_nI h hl), nI_clamp (by omega)]
theorem eq_crc {len : Nat} {f g : Nat → Int32} (hl : len < 2 ^ 31) : ∀ n, n ≤ len → (∀ i, i < n → f i = g i) → sp_crc len f n = rs_crc g n := by
  intro n
  induction n with
  | zero => intro _ _; rfl
  | succ n ih =>
    intro hn h
    show sp_crcb (sp_crc len f n ^^^ ((sp_at len f (nI n)) <<< ((8 : Int32) &&& 31))) 8 = sp_crcb (rs_crc g n ^^^ ((g n) <<< ((8 : Int32) &&& 31))) 8
    rw [ih (by omega) (fun i hi => h i (by omega)), eq_at (by omega) hl, h n (by omega)]
theorem eq_rcrc {f g : Nat → Int32} : ∀ n, (∀ i, i < n → f i = g i) → rs_crc f n = rs_crc g n := by
  intro n
  induction n with
  | zero => intro _; rfl
  | succ n ih =>
    intro h
    show sp_crcb (rs_crc f n ^^^ ((f n) <<< ((8 : Int32) &&& 31))) 8 = sp_crcb (rs_crc g n ^^^ ((g n) <<< ((8 : Int32) &&& 31))) 8
    rw [ih (fun i hi => h i (by omega)), h n (by omega)]
theorem eq_num {len : Nat} {f g : Nat → Int32} {fr : Nat} (hl : len < 2 ^ 31) : ∀ n, fr + n ≤ len → (∀ i, i < len → f i = g i) → sp_num len f (nI fr) n = rs_num g fr n := by
  intro n
  induction n with
  | zero => intro _ _; rfl
  | succ n ih =>
    intro hn h
    show jv_lshl (sp_num len f (nI fr) n) (8 : Int32) ||| (sp_at len f (nI fr + nI n)).toInt64 = jv_lshl (rs_num g fr n) (8 : Int32) ||| (g (fr + n)).toInt64
    rw [ih (by omega) h, nI_add, eq_at (by omega) hl, h (fr + n) (by omega)]
theorem eq_put {len : Nat} {f : Nat → Int32} {i : Nat} {v : Int32} (h : i < len) (hl : len < 2 ^ 31) : sp_put len f (nI i) v = upd f i (v &&& 255) := by
  unfold sp_put
  rw [if_neg (sp_has_nI h hl), nI_clamp (by omega)]
theorem eq_app {n : Nat} {num : Int64} (hn : n < 2 ^ 30) : ∀ (c : Nat) (f : Nat → Int32) (len : Nat), len + c ≤ n → (sp_app n num c f len).2 = len + c ∧ ∀ i, (sp_app n num c f len).1 i = if len ≤ i ∧ i < len + c then sp_byte num (c - 1 - (i - len)) &&& 255 else f i := by
  intro c
  induction c with
  | zero =>
    intro f len _
    refine ⟨rfl, fun i => ?_⟩
    rw [if_neg (by omega)]; rfl
  | succ c ih =>
    intro f len h
    have e : sp_app n num (c + 1) f len = sp_app n num c (sp_put (len + 1) f (nI len) (sp_byte num c)) (len + 1) := if_pos (by omega)
    rw [e, eq_put (by omega) (by omega)]
    obtain ⟨a, b⟩ := ih (upd f len (sp_byte num c &&& 255)) (len + 1) (by omega)
    refine ⟨by rw [a]; omega, fun i => ?_⟩
    rw [b i]
    by_cases c1 : len + 1 ≤ i ∧ i < len + 1 + c
    · rw [if_pos c1, if_pos (by omega), show c - 1 - (i - (len + 1)) = c + 1 - 1 - (i - len) from by omega]
    · rw [if_neg c1]
      by_cases c2 : i = len
      · subst c2
        rw [pk_us, if_pos (by omega), show c + 1 - 1 - (i - i) = c from by omega]
      · rw [pk_un c2, if_neg (by omega)]
theorem eq_say {v : Int64} : ∀ (c : Nat) (f : Nat → Int32) (n : Nat), ∀ i, (rs_say v c f n).1 i = if n ≤ i ∧ i < n + c then (jv_lshr v (nI (8 * (c - 1 - (i - n))))).toInt32 &&& 255 else f i := by
  intro c
  induction c with
  | zero =>
    intro f n i
    rw [if_neg (by omega)]; rfl
  | succ c ih =>
    intro f n i
    show (rs_say v c (upd f n ((jv_lshr v (nI (8 * c))).toInt32 &&& 255)) (n + 1)).1 i = _
    rw [ih]
    by_cases c1 : n + 1 ≤ i ∧ i < n + 1 + c
    · rw [if_pos c1, if_pos (by omega), show c - 1 - (i - (n + 1)) = c + 1 - 1 - (i - n) from by omega]
    · rw [if_neg c1]
      by_cases c2 : i = n
      · subst c2
        rw [pk_us, if_pos (by omega), show c + 1 - 1 - (i - i) = c from by omega]
      · rw [pk_un c2, if_neg (by omega)]
theorem gb_lshrK (b : Int64) {i : Nat} (hi : i < 64) {k : Nat} (hk : i + k < 64) : gb (jv_lshr b (nI i)) k = gb b (i + k) := by
  unfold jv_lshr gb
  have e : (b >>> ((nI i).toInt64 &&& 63)).toBitVec = b.toBitVec.sshiftRight i := by
    rw [Int64.toBitVec_shiftRight]
    show b.toBitVec.sshiftRight (((nI i).toInt64 &&& 63).toBitVec.smod 64).toNat = _
    rw [gb_cs i hi]
  rw [e, BitVec.getLsbD_sshiftRight, if_pos hk]
  have : ¬ 64 ≤ k := by omega
  simp [this]
/-- the lowest byte of a long, as an int -/
theorem eq_lowb {x y : Int64} (h : ∀ i, i < 8 → gb x i = gb y i) : x.toInt32 &&& 255 = y.toInt32 &&& 255 := by
  apply Int32.toBitVec_inj.mp
  apply BitVec.eq_of_getLsbD_eq
  intro i hi
  rw [Int32.toBitVec_and, Int32.toBitVec_and, BitVec.getLsbD_and, BitVec.getLsbD_and]
  by_cases c : i < 8
  · have e : ∀ z : Int64, z.toInt32.toBitVec.getLsbD i = gb z i := by
      intro z
      show (z.toBitVec.signExtend 32).getLsbD i = _
      rw [BitVec.getLsbD_signExtend, if_pos (by omega)]
      simp [gb, hi]
    rw [e x, e y, h i c]
  · have e : (255 : Int32).toBitVec.getLsbD i = false := by
      have : ∀ i, i < 32 → ¬ i < 8 → (255#32).getLsbD i = false := by decide
      exact this i hi c
    rw [e, Bool.and_false, Bool.and_false]
theorem eq_byte (v : Int64) {c : Nat} (hc : c < 8) : sp_byte v c &&& 255 = (jv_lshr v (nI (8 * c))).toInt32 &&& 255 := by
  unfold sp_byte
  apply eq_lowb
  intro i hi
  rw [gb_lushr v (by omega), gb_lshrK v (by omega) (by omega)]
