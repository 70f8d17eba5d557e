/-- bit i of a long -/
def gb (x : Int64) (i : Nat) : Bool := x.toBitVec.getLsbD i
theorem gb_ext {x y : Int64} (h : ∀ i, i < 64 → gb x i = gb y i) : x = y := by
  apply Int64.toBitVec_inj.mp
  apply BitVec.eq_of_getLsbD_eq
  intro i hi
  exact h i hi
theorem gb_or (x y : Int64) (i : Nat) : gb (x ||| y) i = (gb x i || gb y i) := by
  unfold gb; rw [Int64.toBitVec_or, BitVec.getLsbD_or]
theorem gb_and (x y : Int64) (i : Nat) : gb (x &&& y) i = (gb x i && gb y i) := by
  unfold gb; rw [Int64.toBitVec_and, BitVec.getLsbD_and]
theorem gb_xor (x y : Int64) (i : Nat) : gb (x ^^^ y) i = (gb x i ^^ gb y i) := by
  unfold gb; rw [Int64.toBitVec_xor, BitVec.getLsbD_xor]
theorem gb_0 (i : Nat) : gb 0 i = false := by
  show (0#64).getLsbD i = false
  exact BitVec.getLsbD_zero
theorem gb_m1 {i : Nat} (h : i < 64) : gb (-1) i = true := by
  have ha : (-1 : Int64).toBitVec = BitVec.allOnes 64 := by decide
  unfold gb; rw [ha, BitVec.getLsbD_allOnes]; exact decide_eq_true h
theorem gb_nt {x : Bool} (h : ¬ x = false) : x = true := by cases x <;> first | rfl | exact absurd rfl h
theorem gb_nf {x : Bool} (h : ¬ x = true) : x = false := by cases x <;> first | rfl | exact absurd rfl h
theorem gb_cu : ∀ k, k < 64 → ((nI k).toInt64.toUInt64 &&& Int64.toUInt64 63).toNat = k := by decide +kernel
theorem gb_cs : ∀ k, k < 64 → (((nI k).toInt64 &&& 63).toBitVec.smod 64).toNat = k := by decide +kernel
theorem gb_1 {i : Nat} : gb 1 i = decide (i = 0) := by
  show (1#64).getLsbD i = _
  rw [BitVec.getLsbD_one]
  by_cases h : i = 0
  · subst h; rfl
  · rw [decide_eq_false h]
    simp [h]
theorem gb_lushr (b : Int64) {i : Nat} (hi : i < 64) (k : Nat) : gb (jv_lushr b (nI i)) k = gb b (i + k) := by
  unfold jv_lushr
  have e : (b.toUInt64 >>> ((nI i).toInt64.toUInt64 &&& Int64.toUInt64 63)).toInt64.toBitVec = b.toBitVec >>> i := by
    apply BitVec.eq_of_toNat_eq
    show (b.toUInt64 >>> _).toNat = _
    rw [UInt64.toNat_shiftRight, gb_cu i hi, Nat.mod_eq_of_lt hi, BitVec.toNat_ushiftRight]
    rfl
  unfold gb
  rw [e, BitVec.getLsbD_ushiftRight]
theorem gb_lshr (b : Int64) {i : Nat} (hi : i < 64) : gb (jv_lshr b (nI i)) 0 = gb b i := by
  unfold jv_lshr gb
  have e : (b >>> ((nI i).toInt64 &&& 63)).toBitVec = b.toBitVec.sshiftRight i := by
    rw [Int64.toBitVec_shiftRight]
    show b.toBitVec.sshiftRight (((nI i).toInt64 &&& 63).toBitVec.smod 64).toNat = _
    rw [gb_cs i hi]
  rw [e, BitVec.getLsbD_sshiftRight]
  simp [hi]
theorem gb_lshl1 {i : Nat} (hi : i < 64) {k : Nat} (hk : k < 64) : gb (jv_lshl 1 (nI i)) k = decide (k = i) := by
  unfold jv_lshl gb
  have e : ((1 : Int64) <<< ((nI i).toInt64 &&& 63)).toBitVec = (1#64) <<< i := by
    rw [Int64.toBitVec_shiftLeft]
    show (1#64) <<< (((nI i).toInt64 &&& 63).toBitVec.smod 64) = _
    rw [BitVec.shiftLeft_eq', gb_cs i hi]
  rw [e, BitVec.getLsbD_shiftLeft]
  by_cases h : k = i
  · subst h; simp [hk]
  · rw [decide_eq_false h]
    by_cases h2 : k < i
    · simp [h2]
    · simp [h2]
      intro _
      omega
theorem gb_and1 (x : Int64) : x &&& 1 = 0 ↔ gb x 0 = false := by
  constructor
  · intro h
    have := congrArg (fun y => gb y 0) h
    simp only [gb_and, gb_1, gb_0] at this
    simpa using this
  · intro h
    apply gb_ext
    intro i hi
    rw [gb_and, gb_1, gb_0]
    by_cases e : i = 0
    · subst e; rw [h]; rfl
    · rw [decide_eq_false e, Bool.and_false]
theorem lg_cmp0 {x y : Int64} : lg_cmp x y = 0 ↔ x = y := by
  unfold lg_cmp
  by_cases h : x > y
  · rw [if_pos h]
    constructor
    · intro e; exact absurd e (by decide)
    · intro e; subst e; have := Int64.lt_iff_toInt_lt.mp h; omega
  · rw [if_neg h]
    by_cases h2 : x = y
    · rw [if_pos h2]; exact ⟨fun _ => h2, fun _ => rfl⟩
    · rw [if_neg h2]; exact ⟨fun e => absurd e (by decide), fun e => absurd e h2⟩
/-- the class's test of a bit -/
theorem gb_bit (b : Int64) {i : Nat} (hi : i < 64) : sp_bit b (nI i) = 0 ↔ gb b i = false := by
  unfold sp_bit
  have e : lg_cmp ((jv_lushr b (nI i)) &&& 1) 0 = 0 ↔ gb b i = false := by
    rw [lg_cmp0, gb_and1, gb_lushr b hi]; rfl
  by_cases h : gb b i = false
  · rw [if_pos (e.mpr h)]; exact ⟨fun _ => h, fun _ => rfl⟩
  · rw [if_neg (mt e.mp h)]; exact ⟨fun q => absurd q (by decide), fun q => absurd q h⟩
/-- the reference's tests of a bit -/
theorem gb_t0 (y : Int64) {i : Nat} (hi : i < 64) : lg_cmp ((jv_lshr y (nI i)) &&& 1) 0 = 0 ↔ gb y i = false := by
  rw [lg_cmp0, gb_and1, gb_lshr y hi]
theorem gb_t1 (y : Int64) {i : Nat} (hi : i < 64) : lg_cmp ((jv_lshr y (nI i)) &&& 1) 1 = 0 ↔ gb y i = true := by
  rw [lg_cmp0]
  constructor
  · intro h
    have := congrArg (fun z => gb z 0) h
    simp only [gb_and, gb_1, gb_lshr y hi] at this
    simpa using this
  · intro h
    apply gb_ext
    intro k hk
    rw [gb_and, gb_1]
    by_cases e : k = 0
    · subst e; rw [gb_lshr y hi, h]; rfl
    · rw [decide_eq_false e, Bool.and_false]
