/-! how many bits: the class's count by lanes, the reference's one by one -/
theorem lN_ushr {a k : Nat} (ha : a < 2 ^ 63) (hk : k < 64) : jv_lushr (lN a) (nI k) = lN (a / 2 ^ k) := by
  apply Int64.toBitVec_inj.mp
  apply BitVec.eq_of_toNat_eq
  have e : (jv_lushr (lN a) (nI k)).toBitVec = (lN a).toBitVec >>> k := by
    unfold jv_lushr
    apply BitVec.eq_of_toNat_eq
    show ((lN a).toUInt64 >>> _).toNat = _
    rw [UInt64.toNat_shiftRight, gb_cu k hk, Nat.mod_eq_of_lt hk, BitVec.toNat_ushiftRight]
    rfl
  have hd : a / 2 ^ k ≤ a := Nat.div_le_self _ _
  rw [e, BitVec.toNat_ushiftRight, lN_tn (by omega), lN_tn (by omega), Nat.shiftRight_eq_div_pow]
theorem lN_and {a b : Nat} (ha : a < 2 ^ 64) (hb : b < 2 ^ 64) : lN a &&& lN b = lN (a &&& b) := by
  apply Int64.toBitVec_inj.mp
  apply BitVec.eq_of_toNat_eq
  have h : a &&& b ≤ a := Nat.and_le_left
  rw [Int64.toBitVec_and, BitVec.toNat_and, lN_tn (by omega), lN_tn (by omega), lN_tn (by omega)]
theorem pc_split (q : Nat) {r : Nat} (hr : r < 256) (M : Nat) : (256 * q + r) &&& M = 256 * (q &&& (M / 256)) + (r &&& (M % 256)) := by
  have h1 := Nat.and_div_two_pow (a := 256 * q + r) (b := M) (n := 8)
  have h2 := Nat.and_mod_two_pow (a := 256 * q + r) (b := M) (n := 8)
  rw [show (2 : Nat) ^ 8 = 256 from rfl] at h1 h2
  rw [show (256 * q + r) / 256 = q from by omega] at h1
  rw [show (256 * q + r) % 256 = r from by omega] at h2
  omega
def pc_1 (M n : Nat) : Nat := n - (n / 2 &&& M)
def pc_2 (M n : Nat) : Nat := (n &&& M) + (n / 4 &&& M)
def pc_3 (M n : Nat) : Nat := (n + n / 16) &&& M
def pc_t1 (r : Nat) : Nat := r - (r / 2 &&& 85)
def pc_t2 (r : Nat) : Nat := (r &&& 51) + (r / 4 &&& 51)
theorem pc_a : ∀ r, r < 256 → ∀ b, b < 2 → (128 * b + r / 2) &&& 85 = r / 2 &&& 85 := by decide +kernel
theorem pc_b : ∀ r, r < 256 → ∀ b, b < 4 → (64 * b + r / 4) &&& 51 = r / 4 &&& 51 := by decide +kernel
theorem pc_1s (M : Nat) (hM : M % 256 = 85) (q : Nat) {r : Nat} (hr : r < 256) : pc_1 M (256 * q + r) = 256 * pc_1 (M / 256) q + pc_t1 r := by
  unfold pc_1 pc_t1
  have e : (256 * q + r) / 2 = 256 * (q / 2) + (128 * (q % 2) + r / 2) := by omega
  rw [e, pc_split _ (by omega), hM, pc_a r hr (q % 2) (by omega)]
  have h1 : q / 2 &&& M / 256 ≤ q / 2 := Nat.and_le_left
  have h2 : r / 2 &&& 85 ≤ r / 2 := Nat.and_le_left
  omega
theorem pc_2s (M : Nat) (hM : M % 256 = 51) (q : Nat) {r : Nat} (hr : r < 256) : pc_2 M (256 * q + r) = 256 * pc_2 (M / 256) q + pc_t2 r := by
  unfold pc_2 pc_t2
  have e : (256 * q + r) / 4 = 256 * (q / 4) + (64 * (q % 4) + r / 4) := by omega
  rw [e, pc_split _ hr, pc_split _ (by omega), hM, pc_b r hr (q % 4) (by omega)]
  omega
theorem pc_3s (M : Nat) (hM : M % 256 = 15) (q : Nat) {r : Nat} (hr : r ≤ 68) (hq : q % 16 ≤ 4) : pc_3 M (256 * q + r) = 256 * pc_3 (M / 256) q + (r + r / 16) % 16 := by
  unfold pc_3
  have e : 256 * q + r + (256 * q + r) / 16 = 256 * (q + q / 16) + (r + r / 16 + 16 * (q % 16)) := by omega
  have e2 : ∀ x : Nat, x &&& 15 = x % 16 := fun x => Nat.and_two_pow_sub_one_eq_mod x 4
  rw [e, pc_split _ (by omega), hM, e2]
  omega
theorem pc_r : ∀ d, d < 256 → pc_t1 d < 256 ∧ pc_t2 (pc_t1 d) ≤ 68 ∧ pc_t2 (pc_t1 d) % 16 ≤ 4 := by decide +kernel
def pc_8 (d : Nat) : Nat := (d.testBit 0).toNat + (d.testBit 1).toNat + (d.testBit 2).toNat + (d.testBit 3).toNat + (d.testBit 4).toNat + (d.testBit 5).toNat + (d.testBit 6).toNat + (d.testBit 7).toNat
theorem pc_8e : ∀ d, d < 256 → (pc_t2 (pc_t1 d) + pc_t2 (pc_t1 d) / 16) % 16 = pc_8 d := by decide +kernel
theorem pc_8l : ∀ d, d < 256 → pc_8 d ≤ 8 := by decide +kernel
theorem pc_1z (M : Nat) : pc_1 M 0 = 0 := by unfold pc_1; omega
theorem pc_2z (M : Nat) : pc_2 M 0 = 0 := by unfold pc_2; simp
theorem pc_3z (M : Nat) : pc_3 M 0 = 0 := by unfold pc_3; simp
theorem pc_all {a b c d e : Nat} (ha : a < 256) (hb : b < 256) (hc : c < 256) (hd : d < 256) (he : e < 256) :
    pc_3 1085102592571150095 (pc_2 3689348814741910323 (pc_1 6148914691236517205 (256 * (256 * (256 * (256 * (256 * 0 + e) + d) + c) + b) + a))) = 256 * (256 * (256 * (256 * pc_8 e + pc_8 d) + pc_8 c) + pc_8 b) + pc_8 a := by
  rw [pc_1s _ (by decide) _ ha, pc_1s _ (by decide) _ hb, pc_1s _ (by decide) _ hc, pc_1s _ (by decide) _ hd, pc_1s _ (by decide) _ he, pc_1z]
  obtain ⟨a1, a2, a3⟩ := pc_r a ha
  obtain ⟨b1, b2, b3⟩ := pc_r b hb
  obtain ⟨c1, c2, c3⟩ := pc_r c hc
  obtain ⟨d1, d2, d3⟩ := pc_r d hd
  obtain ⟨e1, e2, e3⟩ := pc_r e he
  rw [pc_2s _ (by decide) _ a1, pc_2s _ (by decide) _ b1, pc_2s _ (by decide) _ c1, pc_2s _ (by decide) _ d1, pc_2s _ (by decide) _ e1, pc_2z]
  rw [pc_3s _ (by decide) _ a2 (by omega), pc_3s _ (by decide) _ b2 (by omega), pc_3s _ (by decide) _ c2 (by omega), pc_3s _ (by decide) _ d2 (by omega), pc_3s _ (by decide) _ e2 (by omega), pc_3z, pc_8e a ha, pc_8e b hb, pc_8e c hc, pc_8e d hd, pc_8e e he]
  omega
theorem pc_low {x : Int64} (h : lo40 x) : x.toBitVec.toNat < 2 ^ 40 := by
  apply Nat.lt_pow_two_of_testBit
  intro i hi
  by_cases c : i < 64
  · have := h i hi c
    unfold gb at this
    rw [← BitVec.testBit_toNat] at this; exact this
  · exact Nat.testBit_lt_two_pow (Nat.lt_of_lt_of_le x.toBitVec.isLt (Nat.pow_le_pow_right (by omega) (by omega)))
theorem pc_lN (x : Int64) : x = lN x.toBitVec.toNat := by
  apply Int64.toBitVec_inj.mp
  apply BitVec.eq_of_toNat_eq
  rw [lN_tn x.toBitVec.isLt]
theorem pc_cls {n : Nat} (hn : n < 2 ^ 40) : sp_bc (lN n) = nI (pc_8 (n % 256) + pc_8 (n / 256 % 256) + pc_8 (n / 65536 % 256) + pc_8 (n / 16777216 % 256) + pc_8 (n / 4294967296 % 256)) := by
  have l1 : ∀ k m : Nat, k < 64 → m < 2 ^ 62 → jv_lushr (lN m) (nI k) = lN (m / 2 ^ k) := fun k m hk hm => lN_ushr (by omega) hk
  have s1 : sp_b1 (lN n) = lN (pc_1 6148914691236517205 n) := by
    have h : n / 2 &&& 6148914691236517205 ≤ n / 2 := Nat.and_le_left
    show lN n - ((jv_lushr (lN n) (nI 1)) &&& lN 6148914691236517205) = _
    rw [l1 1 n (by omega) (by omega), show (2 : Nat) ^ 1 = 2 from rfl, lN_and (by omega) (by omega), lN_sub (by omega)]; rfl
  have b1 : pc_1 6148914691236517205 n ≤ n := Nat.sub_le _ _
  have s2 : sp_b2 (lN (pc_1 6148914691236517205 n)) = lN (pc_2 3689348814741910323 (pc_1 6148914691236517205 n)) := by
    show ((lN (pc_1 6148914691236517205 n)) &&& lN 3689348814741910323) + ((jv_lushr (lN (pc_1 6148914691236517205 n)) (nI 2)) &&& lN 3689348814741910323) = _
    rw [l1 2 _ (by omega) (by omega), show (2 : Nat) ^ 2 = 4 from rfl, lN_and (by omega) (by omega), lN_and (by omega) (by omega), lN_add]; rfl
  have b2 : pc_2 3689348814741910323 (pc_1 6148914691236517205 n) < 2 ^ 42 := by
    have h1 : pc_1 6148914691236517205 n &&& 3689348814741910323 ≤ pc_1 6148914691236517205 n := Nat.and_le_left
    have h2 : pc_1 6148914691236517205 n / 4 &&& 3689348814741910323 ≤ pc_1 6148914691236517205 n / 4 := Nat.and_le_left
    unfold pc_2; omega
  have s3 : sp_b3 (lN (pc_2 3689348814741910323 (pc_1 6148914691236517205 n))) = lN (pc_3 1085102592571150095 (pc_2 3689348814741910323 (pc_1 6148914691236517205 n))) := by
    show ((lN (pc_2 3689348814741910323 (pc_1 6148914691236517205 n))) + (jv_lushr (lN (pc_2 3689348814741910323 (pc_1 6148914691236517205 n))) (nI 4))) &&& lN 1085102592571150095 = _
    rw [l1 4 _ (by omega) (by omega), show (2 : Nat) ^ 4 = 16 from rfl, lN_add, lN_and (by omega) (by omega)]; rfl
  have hd : n = 256 * (256 * (256 * (256 * (256 * 0 + n / 4294967296 % 256) + n / 16777216 % 256) + n / 65536 % 256) + n / 256 % 256) + n % 256 := by omega
  have e3 : pc_3 1085102592571150095 (pc_2 3689348814741910323 (pc_1 6148914691236517205 n)) = 256 * (256 * (256 * (256 * pc_8 (n / 4294967296 % 256) + pc_8 (n / 16777216 % 256)) + pc_8 (n / 65536 % 256)) + pc_8 (n / 256 % 256)) + pc_8 (n % 256) := by
    have := pc_all (a := n % 256) (b := n / 256 % 256) (c := n / 65536 % 256) (d := n / 16777216 % 256) (e := n / 4294967296 % 256) (by omega) (by omega) (by omega) (by omega) (by omega)
    rw [← hd] at this; exact this
  have p0 := pc_8l (n % 256) (by omega)
  have p1 := pc_8l (n / 256 % 256) (by omega)
  have p2 := pc_8l (n / 65536 % 256) (by omega)
  have p3 := pc_8l (n / 16777216 % 256) (by omega)
  have p4 := pc_8l (n / 4294967296 % 256) (by omega)
  generalize pc_8 (n % 256) = q0 at *
  generalize pc_8 (n / 256 % 256) = q1 at *
  generalize pc_8 (n / 65536 % 256) = q2 at *
  generalize pc_8 (n / 16777216 % 256) = q3 at *
  generalize pc_8 (n / 4294967296 % 256) = q4 at *
  unfold sp_bc
  rw [s1, s2, s3, e3]
  obtain ⟨N, hN⟩ : ∃ N, N = 256 * (256 * (256 * (256 * q4 + q3) + q2) + q1) + q0 := ⟨_, rfl⟩
  rw [← hN]
  have hN2 : N < 2 ^ 40 := by omega
  have s4 : sp_b4 (lN N) = lN (N + N / 256) := by
    show lN N + jv_lushr (lN N) (nI 8) = _
    rw [l1 8 _ (by omega) (by omega), show (2 : Nat) ^ 8 = 256 from rfl, lN_add]
  have s5 : sp_b5 (lN (N + N / 256)) = lN (N + N / 256 + (N + N / 256) / 65536) := by
    show lN (N + N / 256) + jv_lushr (lN (N + N / 256)) (nI 16) = _
    rw [l1 16 _ (by omega) (by omega), show (2 : Nat) ^ 16 = 65536 from rfl, lN_add]
  have s6 : sp_b6 (lN (N + N / 256 + (N + N / 256) / 65536)) = lN (N + N / 256 + (N + N / 256) / 65536 + (N + N / 256 + (N + N / 256) / 65536) / 4294967296) := by
    show lN (N + N / 256 + (N + N / 256) / 65536) + jv_lushr (lN (N + N / 256 + (N + N / 256) / 65536)) (nI 32) = _
    rw [l1 32 _ (by omega) (by omega), show (2 : Nat) ^ 32 = 4294967296 from rfl, lN_add]
  rw [s4, s5, s6, lN_i]
  have e127 := pk_and (nI (N + N / 256 + (N + N / 256) / 65536 + (N + N / 256 + (N + N / 256) / 65536) / 4294967296)) (m := 127) 7 (by decide)
  rw [e127]
  congr 1
  have et : (nI (N + N / 256 + (N + N / 256) / 65536 + (N + N / 256 + (N + N / 256) / 65536) / 4294967296)).toBitVec.toNat = (N + N / 256 + (N + N / 256) / 65536 + (N + N / 256 + (N + N / 256) / 65536) / 4294967296) % 2 ^ 32 := rfl
  rw [et]
  have f1 : N / 256 = 256 * (256 * (256 * q4 + q3) + q2) + q1 := by omega
  have f2 : N + N / 256 = 256 * (256 * (256 * (256 * q4 + (q3 + q4)) + (q2 + q3)) + (q1 + q2)) + (q0 + q1) := by omega
  have f3 : (N + N / 256) / 65536 = 256 * (256 * q4 + (q3 + q4)) + (q2 + q3) := by omega
  have f4 : N + N / 256 + (N + N / 256) / 65536 = 256 * (256 * (256 * (256 * q4 + (q3 + q4)) + (q2 + q3 + q4)) + (q1 + q2 + q3 + q4)) + (q0 + q1 + q2 + q3) := by omega
  have f5 : (N + N / 256 + (N + N / 256) / 65536) / 4294967296 = q4 := by omega
  rw [f5, f4]
  omega
theorem pc_b1 {v : Int64} {k : Nat} (hk : k < 64) : rs_b v k = (v.toBitVec.toNat.testBit k).toNat := by
  rw [rs_b_gb hk]
  unfold gb
  rw [← BitVec.testBit_toNat]
  cases v.toBitVec.toNat.testBit k <;> rfl
theorem pc_ref {v : Int64} (m : Nat) (hm : m + 8 ≤ 64) : rs_cnt v (m + 8) = rs_cnt v m + pc_8 (v.toBitVec.toNat / 2 ^ m % 256) := by
  have t : ∀ i, i < 8 → (v.toBitVec.toNat / 2 ^ m % 256).testBit i = v.toBitVec.toNat.testBit (m + i) := by
    intro i hi
    have h8 := Nat.testBit_mod_two_pow (v.toBitVec.toNat / 2 ^ m) 8 i
    rw [show (2 : Nat) ^ 8 = 256 from rfl] at h8
    rw [h8, decide_eq_true hi, Bool.true_and, Nat.testBit_div_two_pow, Nat.add_comm]
  show (((((((rs_cnt v m + rs_b v m) + rs_b v (m + 1)) + rs_b v (m + 2)) + rs_b v (m + 3)) + rs_b v (m + 4)) + rs_b v (m + 5)) + rs_b v (m + 6)) + rs_b v (m + 7) = _
  have t0 := t 0 (by omega)
  rw [Nat.add_zero] at t0
  unfold pc_8
  rw [t0, t 1 (by omega), t 2 (by omega), t 3 (by omega), t 4 (by omega), t 5 (by omega), t 6 (by omega), t 7 (by omega), pc_b1 (by omega), pc_b1 (by omega), pc_b1 (by omega), pc_b1 (by omega), pc_b1 (by omega), pc_b1 (by omega), pc_b1 (by omega), pc_b1 (by omega)]
  omega
theorem eq_bc {x : Int64} (h : lo40 x) : sp_bc x = nI (rs_cnt x 40) := by
  have a := pc_cls (pc_low h)
  rw [← pc_lN x] at a
  rw [a]
  congr 1
  have r1 := pc_ref (v := x) 0 (by omega)
  have r2 := pc_ref (v := x) 8 (by omega)
  have r3 := pc_ref (v := x) 16 (by omega)
  have r4 := pc_ref (v := x) 24 (by omega)
  have r5 := pc_ref (v := x) 32 (by omega)
  rw [show (2 : Nat) ^ 0 = 1 from rfl, Nat.div_one, show rs_cnt x 0 = 0 from rfl] at r1
  rw [show (2 : Nat) ^ 8 = 256 from rfl] at r2
  rw [show (2 : Nat) ^ 16 = 65536 from rfl] at r3
  rw [show (2 : Nat) ^ 24 = 16777216 from rfl] at r4
  rw [show (2 : Nat) ^ 32 = 4294967296 from rfl] at r5
  rw [show 40 = 32 + 8 from rfl, r5, show 32 = 24 + 8 from rfl, r4, show 24 = 16 + 8 from rfl, r3, show 16 = 8 + 8 from rfl, r2, show 8 = 0 + 8 from rfl, r1]
  omega
