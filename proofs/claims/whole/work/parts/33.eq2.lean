/-! parts and outputs -/
theorem eq_bit0 {b : Int64} {i : Nat} (hi : i < 64) (h : gb b i = false) : sp_bit b (nI i) = 0 := (gb_bit b hi).mpr h
theorem eq_bit1 {b : Int64} {i : Nat} (hi : i < 64) (h : gb b i = true) : ¬ sp_bit b (nI i) = 0 := fun q => by
  rw [(gb_bit b hi).mp q] at h; cases h
theorem eq_vos {sy syf : Nat → Int64} {j : Nat} {bits : Int64} {K : Nat} (hs : ∀ i, i < K → sy i = syf (32 * j + i)) (hK : K ≤ 64) : ∀ k, k ≤ K → sp_vos sy bits k = rs_all syf j bits k := by
  intro k
  induction k with
  | zero => intro _; rfl
  | succ k ih =>
    intro hk
    show (if sp_bit bits (nI k) = 0 then sp_vos sy bits k else sp_vos sy bits k ^^^ sy k) = (if lg_cmp ((jv_lshr bits (nI k)) &&& 1) 1 = 0 then rs_all syf j bits k ^^^ syf (32 * j + k) else rs_all syf j bits k ^^^ 0)
    rw [ih (by omega), hs k (by omega)]
    by_cases c : gb bits k = true
    · rw [if_neg (eq_bit1 (by omega) c), if_pos ((gb_t1 bits (by omega)).mpr c)]
    · rw [if_pos (eq_bit0 (by omega) (gb_nf c)), if_neg (mt (gb_t1 bits (by omega)).mp c), eq_xor0]
theorem eq_vos2 {sy : Nat → Int64} {bits : Int64} {K : Nat} (hb : ∀ i, K ≤ i → i < 64 → gb bits i = false) : ∀ k, K + k ≤ 64 → sp_vos sy bits (K + k) = sp_vos sy bits K := by
  intro k
  induction k with
  | zero => intro _; rfl
  | succ k ih =>
    intro hk
    show (if sp_bit bits (nI (K + k)) = 0 then sp_vos sy bits (K + k) else _) = _
    rw [if_pos (eq_bit0 (by omega) (hb (K + k) (by omega) (by omega))), ih (by omega)]
theorem eq_all {sy syf : Nat → Int64} {j : Nat} {bits : Int64} {K : Nat} (hK : K ≤ 32) (hs : ∀ i, i < K → sy i = syf (32 * j + i)) (hb : ∀ i, K ≤ i → i < 64 → gb bits i = false) : sp_vos sy bits 32 = rs_all syf j bits K := by
  rw [← eq_vos hs (by omega) K (Nat.le_refl _)]
  have := eq_vos2 (sy := sy) hb (32 - K) (by omega)
  rw [show K + (32 - K) = 32 from by omega] at this
  exact this
theorem eq_sb_bits {z : Int32} : ∀ n, n ≤ 32 → ∀ i, n ≤ i → i < 64 → gb (sp_drawb z n) i = false := by
  intro n
  induction n with
  | zero => intro _ i _ _; exact gb_0 i
  | succ n ih =>
    intro hn i h1 h2
    show gb (if sp_bit _ 30 = 0 then sp_drawb z n else sp_drawb z n ||| jv_lshl 1 (nI n)) i = false
    split
    · exact ih (by omega) i (by omega) h2
    · rw [gb_or, ih (by omega) i (by omega) h2, gb_lshl1 (by omega) h2, decide_eq_false (by omega)]; rfl
/-- the class's rows of the sums are those that the reference draws -/
def eq_SU (K P : Nat) (seed : Int32) (su : Nat → Int64) : Prop := ∀ q, q < P → su q = rs_sb (seed + (40503 * (nI q + 1))) K
theorem eq_sv {K P : Nat} {seed : Int32} : ∀ n q, q < n → sp_sv K P seed n q = sp_drawb (seed + (nI (40503 * (q + 1)))) K := by
  intro n
  induction n with
  | zero => intro q h; omega
  | succ n ih =>
    intro q h
    show vp_updL (sp_sv K P seed n) n (sp_drawb (seed + (nI (40503 * (n + 1)))) K) q = _
    by_cases c : q = n
    · subst c; exact pk_uLs
    · rw [pk_uLn c]; exact ih q (by omega)
theorem eq_SU_new {K P : Nat} {seed : Int32} (hK : K ≤ 32) : eq_SU K P seed (sp_sv K P seed P) := by
  intro q hq
  rw [eq_sv P q hq, eq_draw _ K hK]
  have e : nI (40503 * (q + 1)) = 40503 * (nI q + 1) := by
    rw [← nI_succ q]
    exact (pk_mul 40503 (q + 1)).symm
  rw [e]
theorem eq_sos {P : Nat} {su : Nat → Int64} {q : Nat} (hq : q < P) (hP : P ≤ 8) : sp_sos P su (nI q) = su q := by
  unfold sp_sos
  rw [if_neg (sp_has_nI hq (by omega)), nI_clamp (by omega)]
theorem eq_part {K P : Nat} {seed : Int32} {su sy syf : Nat → Int64} {j i : Nat} (hK : K ≤ 32) (hP : P ≤ 8) (hs : ∀ i, i < K → sy i = syf (32 * j + i)) (hu : eq_SU K P seed su) (hi : i < K + P) : sp_part K P su sy (nI i) = rs_part syf j K seed i := by
  unfold sp_part rs_part
  by_cases c : K ≤ i
  · rw [if_pos c, if_pos ((eq_has (nI_pos (by omega))).mpr (nI_le c (by omega))), pk_sub c, eq_sos (by omega) hP, hu (i - K) (by omega)]
    refine eq_all hK hs (fun k h1 h2 => ?_)
    rw [← eq_draw _ K hK]
    exact eq_sb_bits K hK k h1 h2
  · rw [if_neg c, if_neg (sp_has_nI (by omega) (by omega)), nI_clamp (by omega)]
    exact hs i (by omega)
theorem eq_out {K P : Nat} {seed : Int32} {su sy syf : Nat → Int64} {j : Nat} {bits : Int64} (hK : K ≤ 32) (hP : P ≤ 8) (hs : ∀ i, i < K → sy i = syf (32 * j + i)) (hu : eq_SU K P seed su) : sp_outl K P su sy bits (K + P) = rs_out syf j K seed bits P := by
  have h1 : ∀ k, k ≤ K → sp_outl K P su sy bits k = rs_all syf j bits k := by
    intro k
    induction k with
    | zero => intro _; rfl
    | succ k ih =>
      intro hk
      show (if sp_bit bits (nI k) = 0 then sp_outl K P su sy bits k else sp_outl K P su sy bits k ^^^ sp_part K P su sy (nI k)) = (if lg_cmp ((jv_lshr bits (nI k)) &&& 1) 1 = 0 then rs_all syf j bits k ^^^ syf (32 * j + k) else rs_all syf j bits k ^^^ 0)
      rw [ih (by omega), eq_part hK hP hs hu (by omega)]
      have e : rs_part syf j K seed k = syf (32 * j + k) := if_neg (by omega)
      rw [e]
      by_cases c : gb bits k = true
      · rw [if_neg (eq_bit1 (by omega) c), if_pos ((gb_t1 bits (by omega)).mpr c)]
      · rw [if_pos (eq_bit0 (by omega) (gb_nf c)), if_neg (mt (gb_t1 bits (by omega)).mp c), eq_xor0]
  have h2 : ∀ k, k ≤ P → sp_outl K P su sy bits (K + k) = rs_out syf j K seed bits k := by
    intro k
    induction k with
    | zero => intro _; exact h1 K (Nat.le_refl _)
    | succ k ih =>
      intro hk
      show (if sp_bit bits (nI (K + k)) = 0 then sp_outl K P su sy bits (K + k) else sp_outl K P su sy bits (K + k) ^^^ sp_part K P su sy (nI (K + k))) = (if lg_cmp ((jv_lshr bits (nI (K + k))) &&& 1) 1 = 0 then rs_out syf j K seed bits k ^^^ rs_all syf j (rs_sb (seed + (40503 * (nI k + 1))) K) K else rs_out syf j K seed bits k ^^^ 0)
      rw [ih (by omega), eq_part hK hP hs hu (by omega)]
      have e : rs_part syf j K seed (K + k) = rs_all syf j (rs_sb (seed + (40503 * (nI k + 1))) K) K := by
        unfold rs_part
        rw [if_pos (by omega), pk_sub (by omega), show K + k - K = k from by omega]
      rw [e]
      by_cases c : gb bits (K + k) = true
      · rw [if_neg (eq_bit1 (by omega) c), if_pos ((gb_t1 bits (by omega)).mpr c)]
      · rw [if_pos (eq_bit0 (by omega) (gb_nf c)), if_neg (mt (gb_t1 bits (by omega)).mp c), eq_xor0]
  exact h2 P (Nat.le_refl _)
