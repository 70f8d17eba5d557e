/-! bytes as numbers; sums of bytes; taking and taking up again -/
def bB (v : Int32) : Prop := ∃ n : Nat, n < 256 ∧ v = nI n
def cB (v : Int32) : Prop := ∃ n : Nat, n < 65536 ∧ v = nI n
theorem bB_and (v : Int32) : bB (v &&& 255) := by
  obtain ⟨j, h, e⟩ := pk_andE v (m := 255) 8 (by decide)
  exact ⟨j, h, e⟩
theorem bB_id {v : Int32} (h : bB v) : v &&& 255 = v := by
  obtain ⟨n, hn, rfl⟩ := h
  rw [pk_andN (by omega) (m := 255) 8 (by decide), Nat.mod_eq_of_lt hn]
theorem nI_xor {a b : Nat} (ha : a < 2 ^ 31) (hb : b < 2 ^ 31) : nI a ^^^ nI b = nI (a ^^^ b) := by
  apply Int32.toBitVec_inj.mp
  apply BitVec.eq_of_toNat_eq
  have h := Nat.xor_lt_two_pow ha hb
  rw [Int32.toBitVec_xor, BitVec.toNat_xor, pk_tn (by omega), pk_tn (by omega), pk_tn (by omega)]
theorem nI_or {a b : Nat} (ha : a < 2 ^ 31) (hb : b < 2 ^ 31) : nI a ||| nI b = nI (a ||| b) := by
  apply Int32.toBitVec_inj.mp
  apply BitVec.eq_of_toNat_eq
  have h := Nat.or_lt_two_pow ha hb
  rw [Int32.toBitVec_or, BitVec.toNat_or, pk_tn (by omega), pk_tn (by omega), pk_tn (by omega)]
theorem bB_xor {v w : Int32} (hv : bB v) (hw : bB w) : bB (v ^^^ w) := by
  obtain ⟨a, ha, rfl⟩ := hv
  obtain ⟨b, hb, rfl⟩ := hw
  refine ⟨a ^^^ b, Nat.xor_lt_two_pow (n := 8) ha hb, nI_xor (by omega) (by omega)⟩
theorem sh8 : (((8 : Int32) &&& 31).toBitVec.smod 32).toNat = 8 := by decide
theorem sh1 : (((1 : Int32) &&& 31).toBitVec.smod 32).toNat = 1 := by decide
theorem cB_cs {x : Int32} (h : cB x) : cB (sp_cs x) := by
  obtain ⟨n, hn, rfl⟩ := h
  have e : nI n <<< ((1 : Int32) &&& 31) = nI (n * 2) := pk_shlN _ 1 sh1 (by omega)
  unfold sp_cs
  by_cases c : nI n <<< ((1 : Int32) &&& 31) ≤ 65535
  · rw [if_pos c, e]
    rw [e] at c
    have := (nI_leI (a := n * 2) (b := 65535) (by omega) (by omega)).mp c
    exact ⟨n * 2, by omega, rfl⟩
  · rw [if_neg c]
    obtain ⟨j, h1, h2⟩ := pk_andE ((nI n <<< ((1 : Int32) &&& 31)) ^^^ 4129) (m := 65535) 16 (by decide)
    exact ⟨j, h1, h2⟩
theorem cB_crcb {x : Int32} (h : cB x) : ∀ j, cB (sp_crcb x j) := by
  intro j
  induction j with
  | zero => exact h
  | succ j ih => exact cB_cs ih
theorem cB_crc {f : Nat → Int32} : ∀ n, (∀ i, i < n → bB (f i)) → cB (rs_crc f n) := by
  intro n
  induction n with
  | zero => intro _; exact ⟨65535, by omega, rfl⟩
  | succ n ih =>
    intro h
    obtain ⟨c, hc, e⟩ := ih (fun i hi => h i (by omega))
    obtain ⟨b, hb, eb⟩ := h n (by omega)
    have e2 : nI b <<< ((8 : Int32) &&& 31) = nI (b * 256) := pk_shlN _ 8 sh8 (by omega)
    show cB (sp_crcb (rs_crc f n ^^^ ((f n) <<< ((8 : Int32) &&& 31))) 8)
    apply cB_crcb
    rw [e, eb, e2, nI_xor (by omega) (by omega)]
    exact ⟨c ^^^ (b * 256), Nat.xor_lt_two_pow (n := 16) (by omega) (by omega), rfl⟩
theorem lN_tn {n : Nat} (h : n < 2 ^ 64) : (lN n).toBitVec.toNat = n := Nat.mod_eq_of_lt h
theorem lN_or {a b : Nat} (ha : a < 2 ^ 62) (hb : b < 2 ^ 62) : lN a ||| lN b = lN (a ||| b) := by
  apply Int64.toBitVec_inj.mp
  apply BitVec.eq_of_toNat_eq
  have h := Nat.or_lt_two_pow ha hb
  rw [Int64.toBitVec_or, BitVec.toNat_or, lN_tn (by omega), lN_tn (by omega), lN_tn (by omega)]
theorem lN_shl8 {a : Nat} (ha : a < 2 ^ 40) : jv_lshl (lN a) (8 : Int32) = lN (a * 256) := by
  apply Int64.toBitVec_inj.mp
  apply BitVec.eq_of_toNat_eq
  have e : (jv_lshl (lN a) (8 : Int32)).toBitVec = (lN a).toBitVec <<< 8 := by
    unfold jv_lshl
    rw [Int64.toBitVec_shiftLeft]
    show (lN a).toBitVec <<< (((8 : Int32).toInt64 &&& 63).toBitVec.smod 64) = _
    rw [BitVec.shiftLeft_eq']
    rfl
  rw [e, BitVec.toNat_shiftLeft, lN_tn (by omega), lN_tn (by omega), Nat.shiftLeft_eq]
  exact Nat.mod_eq_of_lt (by omega)
theorem or_256 (a : Nat) {b : Nat} (hb : b < 256) : a * 256 ||| b = a * 256 + b := by
  have := Nat.shiftLeft_add_eq_or_of_lt (i := 8) hb a
  rw [Nat.shiftLeft_eq] at this
  exact this.symm
theorem num2 {f : Nat → Int32} {fr : Nat} (h1 : bB (f fr)) (h2 : bB (f (fr + 1))) : ∃ n : Nat, n < 65536 ∧ rs_num f fr 2 = lN n ∧ f fr = nI (n / 256) ∧ f (fr + 1) = nI (n % 256) := by
  obtain ⟨a, ha, ea⟩ := h1
  obtain ⟨b, hb, eb⟩ := h2
  refine ⟨a * 256 + b, by omega, ?_, by rw [ea, show (a * 256 + b) / 256 = a from by omega], by rw [eb, show (a * 256 + b) % 256 = b from by omega]⟩
  show jv_lshl (jv_lshl 0 (8 : Int32) ||| (f (fr + 0)).toInt64) (8 : Int32) ||| (f (fr + 1)).toInt64 = _
  have e0 : jv_lshl 0 (8 : Int32) = lN 0 := by
    have := lN_shl8 (a := 0) (by omega)
    exact this
  rw [Nat.add_zero, ea, eb, nI_l (by omega), nI_l (by omega), e0, lN_or (by omega) (by omega), Nat.zero_or, lN_shl8 (by omega), lN_or (by omega) (by omega), or_256 a hb]
theorem num2_i {f : Nat → Int32} {n : Nat} (h : n < 65536) (h1 : f 0 = nI (n / 256)) (h2 : f 1 = nI (n % 256)) : ((f 0) <<< ((8 : Int32) &&& 31)) ||| (f 1) = nI n := by
  have e : nI (n / 256) <<< ((8 : Int32) &&& 31) = nI (n / 256 * 256) := pk_shlN _ 8 sh8 (by omega)
  rw [h1, h2, e, nI_or (by omega) (by omega), or_256 _ (by omega), show n / 256 * 256 + n % 256 = n from by omega]
/-- a row of bytes of the class beside one of the reference -/
def RelB (len : Nat) (f g : Nat → Int32) : Prop := ∀ i, i < len → f i = g i ∧ bB (g i)
theorem RelB.sum {len : Nat} {f g : Nat → Int32} (h : RelB len f g) (h2 : 2 ≤ len) (hl : len < 2 ^ 31) : ∃ n c : Nat, n < 65536 ∧ c < 65536 ∧ rs_num g (len - 2) 2 = lN n ∧ g (len - 2) = nI (n / 256) ∧ g (len - 1) = nI (n % 256) ∧ rs_crc g (len - 2) = nI c ∧ sp_ends len f = (if n = c then 1 else 0) := by
  have hb1 := (h (len - 2) (by omega)).2
  have hb2 := (h (len - 2 + 1) (by omega)).2
  obtain ⟨n, hn, e1, e2, e3⟩ := num2 hb1 hb2
  obtain ⟨c, hc, e4⟩ := cB_crc (f := g) (len - 2) (fun i hi => (h i (by omega)).2)
  refine ⟨n, c, hn, hc, e1, e2, by rw [← e3]; congr 1; omega, e4, ?_⟩
  unfold sp_ends
  rw [if_neg (by omega), eq_num hl 2 (by omega) (fun i hi => (h i hi).1), eq_crc hl (len - 2) (by omega) (fun i hi => (h i (by omega)).1), e1, e4, nI_l (by omega)]
  by_cases q : n = c
  · rw [if_pos q, if_pos (lg_cmp0.mpr (by rw [q]))]
  · rw [if_neg q, if_neg (mt lg_cmp0.mp (mt (lN_eq (by omega) (by omega)).mp q))]
section
variable {K P S : Nat} {seed : Int32} {w : Nat → Int32} {wN : Nat → Nat} {j : Nat} {xsf : Nat → Int32} {ouf : Nat → Int64} {Z : RcT} {tkf wrf ff frf : Nat → Int32} {wr tw co : Int32} {S1 : SpS}
/-- taking, in both -/
theorem RelR.take (h : RelR K P seed wN j xsf ouf Z) (hK1 : 1 ≤ K) (hK : K ≤ 32) (hP : P ≤ 8) (hS : S ≤ 8) (hW : eq_W w wN) (hT : 0 < rs_ws wN 12) (hF : RelB (S + 4) ff frf) (ht : tkf j = nI Z.2.2.2.2.1) (e1 : wr = wrf (3 * j)) (e2 : tw = wrf (3 * j + 1)) (e3 : co = wrf (3 * j + 2)) (C : Int32 × RcT × Int32 × Int32 × Int32) (hC : C = sp_tf P (sp_row K P seed w (nI (rs_ws wN 12)) (sp_num (S + 4) ff 0 2).toInt32) (sp_num (S + 4) ff 0 2).toInt32 (sp_num (S + 4) ff (0 + 2) S) (S + 4) ff Z wr tw co) (R : Int32 × (Nat → Int32) × (Nat → Int32) × (Nat → Int64) × (Nat → Int32)) (hR : R = rs_take K P S seed wN j frf wrf xsf ouf tkf Z.2.2.2.2.1 S1) :
    C.1 = R.1 ∧ RelR K P seed wN j R.2.2.1 R.2.2.2.1 C.2.1 ∧ R.2.2.2.2 j = nI C.2.1.2.2.2.2.1 ∧ C.2.2.1 = R.2.1 (3 * j) ∧ C.2.2.2.1 = R.2.1 (3 * j + 1) ∧ C.2.2.2.2 = R.2.1 (3 * j + 2) ∧ (C.2.1.2 = Z.2 ∨ C.2.1.2.2.2.2.2 = 1) ∧ (∀ i, i ≠ j → (∀ k, k < 64 → R.2.2.1 (64 * i + k) = xsf (64 * i + k)) ∧ (∀ k, k < 64 → R.2.2.2.1 (64 * i + k) = ouf (64 * i + k)) ∧ R.2.2.2.2 i = tkf i ∧ (∀ k, k < 3 → R.2.1 (3 * i + k) = wrf (3 * i + k))) := by
  obtain ⟨x, c, hx, hc, a1, a2, a3, a4, a5⟩ := hF.sum (by omega) (by omega)
  obtain ⟨y, hy, b1, b2, b3⟩ := num2 (f := frf) (fr := 0) (hF 0 (by omega)).2 (hF 1 (by omega)).2
  have ey : (sp_num (S + 4) ff 0 2).toInt32 = nI y := by
    have q := eq_num (len := S + 4) (f := ff) (g := frf) (fr := 0) (by omega) 2 (by omega) (fun i hi => (hF i hi).1)
    rw [show sp_num (S + 4) ff 0 2 = sp_num (S + 4) ff (nI 0) 2 from rfl, q, b1, lN_i]
  have eo : sp_num (S + 4) ff (0 + 2) S = rs_num frf 2 S := eq_num (len := S + 4) (f := ff) (g := frf) (fr := 2) (by omega) S (by omega) (fun i hi => (hF i hi).1)
  have hn : ¬ nI y < 0 := nI_pos (by omega)
  have ex : ((frf 0) <<< ((8 : Int32) &&& 31)) ||| (frf 1) = nI y := num2_i hy b2 b3
  rw [ey, eo, eq_row hW hT hn] at hC
  unfold rs_take at hR
  rw [ex] at hR
  unfold sp_tf at hC
  rw [a5] at hC
  have f0 : ∀ i, i ≠ j → (∀ k, k < 64 → xsf (64 * i + k) = xsf (64 * i + k)) ∧ (∀ k, k < 64 → ouf (64 * i + k) = ouf (64 * i + k)) ∧ tkf i = tkf i := fun i _ => ⟨fun _ _ => rfl, fun _ _ => rfl, rfl⟩
  have g0 : ∀ (d : Nat) (v : Int32), d < 3 → ∀ i, i ≠ j → ∀ k, k < 3 → upd wrf (3 * j + d) v (3 * i + k) = wrf (3 * i + k) := fun d v hd i hi k hk => pk_un (by omega)
  have t8 : (rs_crc frf (S + 4 - 2)) >>> ((8 : Int32) &&& 31) = nI (c / 256) := by rw [a4]; exact pk_shrN (by omega) _ 8 sh8
  have t9 : (rs_crc frf (S + 4 - 2)) &&& 255 = nI (c % 256) := by rw [a4]; exact pk_andN (by omega) 8 (by decide)
  rw [t8, t9, a2, a3] at hR
  by_cases q : x = c
  · rw [if_pos q, if_neg (by decide)] at hC
    rw [if_pos (by rw [q]), if_pos (by rw [q])] at hR
    rcases h.acc (out := rs_num frf 2 S) hK1 hK hP hn with ⟨p1, p2⟩ | ⟨p1, p2, p3⟩ | ⟨p1, p2, p3, p4⟩ | ⟨p1, p2, p3, p4, p5⟩
    · rw [p1, if_pos rfl] at hC
      rw [if_neg p2] at hR
      subst hC hR
      refine ⟨rfl, h, ht, ?_, ?_, ?_, Or.inl rfl, fun i hi => ⟨(f0 i hi).1, (f0 i hi).2.1, rfl, g0 1 _ (by omega) i hi⟩⟩
      · show wr = upd wrf (3 * j + 1) _ (3 * j); rw [pk_un (by omega)]; exact e1
      · show tw + 1 = upd wrf (3 * j + 1) _ (3 * j + 1); rw [pk_us, e2]
      · show co = upd wrf (3 * j + 1) _ (3 * j + 2); rw [pk_un (by omega)]; exact e3
    · rw [p1, if_neg (show ¬ ((-4 : Int32)) = -6 by decide), if_neg (show ¬ ((-4 : Int32)) = -7 by decide)] at hC
      rw [if_pos p2, if_pos (by rw [p3]; rfl)] at hR
      subst hC hR
      exact ⟨rfl, h, ht, e1, e2, e3, Or.inl rfl, fun i hi => ⟨(f0 i hi).1, (f0 i hi).2.1, rfl, fun _ _ => rfl⟩⟩
    · rw [p1, if_neg (show ¬ ((-7 : Int32)) = -6 by decide), if_pos rfl] at hC
      rw [if_pos p2, if_neg (show ¬ nI Z.2.2.2.2.1 = 64 from fun e => by have := (nI_eq (a := Z.2.2.2.2.1) (b := 64) (by omega) (by omega)).mp e; omega), if_neg (p4 S1)] at hR
      subst hC hR
      refine ⟨rfl, h, ht, ?_, ?_, ?_, Or.inl rfl, fun i hi => ⟨(f0 i hi).1, (f0 i hi).2.1, rfl, g0 2 _ (by omega) i hi⟩⟩
      · show wr = upd wrf (3 * j + 2) _ (3 * j); rw [pk_un (by omega)]; exact e1
      · show tw = upd wrf (3 * j + 2) _ (3 * j + 1); rw [pk_un (by omega)]; exact e2
      · show co + 1 = upd wrf (3 * j + 2) _ (3 * j + 2); rw [pk_us, e3]
    · have hp := p5.2.2.2.2.2.2
      have h8 : (sp_acc1 P (rs_row K P seed wN (nI y)) (nI y) (rs_num frf 2 S) Z).1.2.2.1 ≤ 100 := by
        have hp : (sp_acc1 P (rs_row K P seed wN (nI y)) (nI y) (rs_num frf 2 S) Z).1.2.2.1 ≤ P + (Z.2.2.2.2.1 + 1) := hp
        omega
      have n6 : ¬ nI (sp_acc1 P (rs_row K P seed wN (nI y)) (nI y) (rs_num frf 2 S) Z).1.2.2.1 = (-6 : Int32) := fun e => by
        have := nI_pos (n := (sp_acc1 P (rs_row K P seed wN (nI y)) (nI y) (rs_num frf 2 S) Z).1.2.2.1) (by omega)
        rw [e] at this; exact this (by decide)
      have n7 : ¬ nI (sp_acc1 P (rs_row K P seed wN (nI y)) (nI y) (rs_num frf 2 S) Z).1.2.2.1 = (-7 : Int32) := fun e => by
        have := nI_pos (n := (sp_acc1 P (rs_row K P seed wN (nI y)) (nI y) (rs_num frf 2 S) Z).1.2.2.1) (by omega)
        rw [e] at this; exact this (by decide)
      rw [p1, if_neg n6, if_neg n7] at hC
      rw [if_pos p2, if_neg (show ¬ nI Z.2.2.2.2.1 = 64 from fun e => by have := (nI_eq (a := Z.2.2.2.2.1) (b := 64) (by omega) (by omega)).mp e; omega), if_pos (p4 S1)] at hR
      subst hC hR
      refine ⟨?_, p5, pk_us, e1, e2, e3, Or.inr rfl, fun i hi => ⟨fun k hk => pk_un (by omega), fun k hk => pk_uLn (by omega), pk_un hi, fun _ _ => rfl⟩⟩
      exact congrArg nI (p5.2.2.2.2.1 _).2.2.2.2.2.2
  · rw [if_neg q, if_pos rfl] at hC
    have hR2 : R = (-5, upd wrf (3 * j) (wrf (3 * j) + 1), xsf, ouf, tkf) := by
      by_cases d1 : nI (x / 256) = nI (c / 256)
      · rw [if_pos d1] at hR
        by_cases d2 : nI (x % 256) = nI (c % 256)
        · have := (nI_eq (by omega) (by omega)).mp d1
          have := (nI_eq (by omega) (by omega)).mp d2
          omega
        · rw [if_neg d2] at hR; exact hR
      · rw [if_neg d1] at hR; exact hR
    subst hC hR2
    refine ⟨rfl, h, ht, ?_, ?_, ?_, Or.inl rfl, fun i hi => ⟨(f0 i hi).1, (f0 i hi).2.1, rfl, g0 0 _ (by omega) i hi⟩⟩
    · show wr + 1 = upd wrf (3 * j) _ (3 * j); rw [pk_us, e1]
    · show tw = upd wrf (3 * j) _ (3 * j + 1); rw [pk_un (by omega)]; exact e2
    · show co = upd wrf (3 * j) _ (3 * j + 2); rw [pk_un (by omega)]; exact e3
end
