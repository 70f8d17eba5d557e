/-! answers, case by case -/
section
variable {ilen isz : Nat} {fi imf : Nat → Int32}
theorem im_byte (h : RelB isz fi imf) (hi : isz ≤ 651) (x : Int32) : sp_iby isz fi x = rs_iby isz imf x := by
  unfold sp_iby rs_iby
  rcases eq_has2 (n := isz) (x := x) (by omega) with ⟨c, q⟩ | ⟨k, hk, rfl⟩
  · rw [if_pos c]
    rcases q with q | q
    · rw [if_pos q]
    · by_cases z : x < 0
      · rw [if_pos z]
      · rw [if_neg z, if_neg (Int32.not_lt.mpr q)]
  · rw [if_neg (sp_has_nI hk (by omega)), if_neg (nI_pos (by omega)), if_pos (nI_lt hk (by omega)), nI_clamp (by omega), eq_at hk (by omega), (h k hk).1]
theorem im_set (h : RelB isz fi imf) (hi : isz ≤ 651) (x v : Int32) : RelB isz (sp_put isz fi x v) (rs_sbf isz imf x v) := by
  unfold rs_sbf
  rcases eq_has2 (n := isz) (x := x) (by omega) with ⟨c, q⟩ | ⟨k, hk, rfl⟩
  · have e1 : sp_put isz fi x v = fi := if_pos c
    rw [e1]
    rcases q with q | q
    · rw [if_pos q]; exact h
    · by_cases z : x < 0
      · rw [if_pos z]; exact h
      · rw [if_neg z, if_neg (Int32.not_lt.mpr q)]; exact h
  · rw [if_neg (nI_pos (by omega)), if_pos (nI_lt hk (by omega)), nI_clamp (by omega), eq_put hk (by omega)]
    intro i hi2
    by_cases c : i = k
    · subst c; rw [pk_us, pk_us]; exact ⟨rfl, bB_and _⟩
    · rw [pk_un c, pk_un c]; exact h i hi2
theorem im_cut (x : Int32) (hi : isz ≤ 651) : ((x < 0 ∨ nI isz < x) ∧ sp_cutr isz x = -2 ∧ sp_cutl isz x = isz) ∨ ∃ k : Nat, k ≤ isz ∧ x = nI k ∧ sp_cutr isz x = nI isz ∧ sp_cutl isz x = k := by
  by_cases c : x < 0
  · exact Or.inl ⟨Or.inl c, if_pos c, if_pos c⟩
  · obtain ⟨k, hk, rfl⟩ := nI_of c
    by_cases d : k ≤ isz
    · refine Or.inr ⟨k, d, rfl, sp_cut_b hk (by omega) d, ?_⟩
      unfold sp_cutl
      rw [if_neg c, if_pos ((nI_leI hk (by omega)).mpr d), nI_clamp hk]
    · exact Or.inl ⟨Or.inr (nI_lt (by omega) hk), sp_cut_c hk (by omega) d, sp_cut_f hk (by omega) d⟩
end
section
variable {K P S j : Nat} {seed T : Int32} {wN : Nat → Nat} {xsf w : Nat → Int32} {ouf su sy syf : Nat → Int64} {Z : RcT} {Pl : Int64 × Int64 × Int64} {sts wrf : Nat → Int32} {S1 : SpS} {wr tw co : Int32}
theorem fresh_eq (h : Z.2.2.2.2.2 = 0 → Pl = sp_run Z.2.2.2.1 (P + Z.2.2.2.2.1) (K + P) (K + P) (sp_run0 (K + P))) : sp_fresh Z.2.2.2.2.2 Z.2.2.2.1 (P + Z.2.2.2.2.1) (K + P) Pl = sp_run Z.2.2.2.1 (P + Z.2.2.2.2.1) (K + P) (K + P) (sp_run0 (K + P)) := by
  unfold sp_fresh
  by_cases c : Z.2.2.2.2.2 = 0
  · rw [if_pos c]; exact h c
  · rw [if_neg c]
theorem fresh_M (h : RelR K P seed wN j xsf ouf Z) (hK : K ≤ 32) (hP : P ≤ 8) (hPl : Z.2.2.2.2.2 = 0 → Pl = sp_run Z.2.2.2.1 (P + Z.2.2.2.2.1) (K + P) (K + P) (sp_run0 (K + P))) : RelM (K + P) (sp_fresh Z.2.2.2.2.2 Z.2.2.2.1 (P + Z.2.2.2.2.1) (K + P) Pl) (rs_pl K P seed wN j xsf (P + Z.2.2.2.2.1) 41 (jv_lshl 1 (nI (K + P)) - 1) (rs_clr sts 40)) := by
  rw [fresh_eq hPl]
  exact pl_eq rfl (by omega) h.2.2.2.1
theorem told_bad {y : Int32} {S0 : SpS} {tk KP : Nat} {Q : Int64 × Int64 × Int64} (h : y < 0 ∨ 9 < y) : sp_tell y S0 tk KP Q wr tw co = -2 ∧ sp_tello y wr = wr ∧ sp_tellp y Pl Q = Pl := by
  have e : y.toInt < 0 ∨ 9 < y.toInt := by
    rcases h with h | h
    · exact Or.inl (Int32.lt_iff_toInt_lt.mp h)
    · exact Or.inr (Int32.lt_iff_toInt_lt.mp h)
  unfold sp_tell sp_tello sp_tellp
  rw [if_pos e, if_neg (by omega), if_neg (by omega)]
  exact ⟨rfl, rfl, rfl⟩
theorem told_in {y : Int32} (h : ¬ (y < 0 ∨ 9 < y)) : ∃ k : Nat, k ≤ 9 ∧ y = nI k := by
  have c : ¬ y < 0 := fun q => h (Or.inl q)
  obtain ⟨k, hk, rfl⟩ := nI_of c
  refine ⟨k, ?_, rfl⟩
  rcases Nat.lt_or_ge 9 k with q | q
  · exact absurd (Or.inr ((nI_ltI (a := 9) (b := k) (by omega) hk).mpr q)) h
  · exact q
theorem told_eq (h : RelR K P seed wN j xsf ouf Z) (hK : K ≤ 32) (hP : P ≤ 8) (hPl : Z.2.2.2.2.2 = 0 → Pl = sp_run Z.2.2.2.1 (P + Z.2.2.2.2.1) (K + P) (K + P) (sp_run0 (K + P))) (e1 : wr = wrf (3 * j)) (e2 : tw = wrf (3 * j + 1)) (e3 : co = wrf (3 * j + 2)) {k : Nat} (hk : k ≤ 9) :
    sp_tell (nI k) Z.1 Z.2.2.2.2.1 (K + P) (sp_fresh Z.2.2.2.2.2 Z.2.2.2.1 (P + Z.2.2.2.2.1) (K + P) Pl) wr tw co = rs_told (rs_bld K P seed wN j xsf ouf S1 (P + Z.2.2.2.2.1)) Z.2.2.2.2.1 (K + P) wrf j (rs_pl K P seed wN j xsf (P + Z.2.2.2.2.1) 41 (jv_lshl 1 (nI (K + P)) - 1) (rs_clr sts 40)) (nI k) := by
  have hM := fresh_M (sts := sts) h hK hP hPl
  have hS := h.2.2.2.2.1 S1
  have h6 := h.2.2.2.2.2.1
  generalize sp_fresh Z.2.2.2.2.2 Z.2.2.2.1 (P + Z.2.2.2.2.1) (K + P) Pl = Q at *
  generalize rs_pl K P seed wN j xsf (P + Z.2.2.2.2.1) 41 (jv_lshl 1 (nI (K + P)) - 1) (rs_clr sts 40) = f at *
  generalize rs_bld K P seed wN j xsf ouf S1 (P + Z.2.2.2.2.1) = R at *
  rcases (show k = 0 ∨ k = 1 ∨ k = 2 ∨ k = 3 ∨ k = 4 ∨ k = 5 ∨ k = 6 ∨ k = 7 ∨ k = 8 ∨ k = 9 by omega) with rfl | rfl | rfl | rfl | rfl | rfl | rfl | rfl | rfl | rfl
  · show nI Z.1.2.2.1 = nI R.2.2.1
    rw [hS.2.2.2.2.2.2]
  · rfl
  · show (if nI Z.1.2.2.1 = nI (K + P) then (1 : Int32) else 0) = (if nI R.2.2.1 = nI (K + P) then 1 else 0)
    rw [hS.2.2.2.2.2.2]
  · show nI (sp_cnt Z.1.1 40) = nI (rs_kc R.1 (K + P))
    rw [hS.count (by omega) h6]
  · exact hM.c1 (by omega)
  · exact hM.c2 (by omega)
  · exact hM.c0 (by omega)
  · exact e1
  · exact e2
  · exact e3
theorem told_old {k : Nat} (hk : k ≤ 9) {old : Int32} {Q : Int64 × Int64 × Int64} (h : old = 0 → Pl = Q) : sp_tello (nI k) old = 0 → sp_tellp (nI k) Pl Q = Q := by
  unfold sp_tello sp_tellp
  intro q
  split
  · rfl
  · rename_i c
    rw [if_neg c] at q; exact h q
theorem known_no (h : RelR K P seed wN j xsf ouf Z) (hK : K ≤ 32) (hP : P ≤ 8) {y : Int32} (hb : sp_has (K + P) y = 0) : sp_alone Z.1.1 y = 0 := by
  rcases eq_has2 (n := 40) (x := y) (by omega) with ⟨c, q⟩ | ⟨k, hk, rfl⟩
  · unfold sp_alone
    rcases q with q | q
    · rw [if_pos q]
    · by_cases z : y < 0
      · rw [if_pos z]
      · rw [if_neg z, if_pos (show (40 : Int32) ≤ y from q)]
  · apply Classical.byContradiction
    intro e
    have a := (eq_alone hk).mp e
    have hk2 : ¬ k < K + P := fun q => sp_has_nI q (by omega) hb
    have b := h.2.2.2.2.2.1 k hk k (by omega) (by omega)
    rw [a, gb_lshl1 (by omega) (by omega), decide_eq_true rfl] at b
    cases b
theorem isk_eq (h : RelR K P seed wN j xsf ouf Z) (hK : K ≤ 32) (hP : P ≤ 8) {k : Nat} (hk : k < K + P) : sp_fisk K P Z (nI k) = rs_isk (rs_bld K P seed wN j xsf ouf S1 (P + Z.2.2.2.2.1)) k := by
  have hS := h.2.2.2.2.1 S1
  have e := hS.knows (i := k) (by omega)
  unfold sp_fisk rs_isk
  rw [if_neg (sp_has_nI hk (by omega))]
  by_cases c : sp_alone Z.1.1 (nI k) = 0
  · rw [if_pos c, if_pos (e.mp c)]
  · rw [if_neg c, if_neg (mt e.mpr c)]
theorem kn_eq (h : RelR K P seed wN j xsf ouf Z) (hK : K ≤ 32) (hP : P ≤ 8) {k : Nat} (hk : k < K + P) : sp_fkn Z (nI k) = rs_kn (rs_bld K P seed wN j xsf ouf S1 (P + Z.2.2.2.2.1)) k := by
  have hS := h.2.2.2.2.1 S1
  have e := hS.knows (i := k) (by omega)
  unfold sp_fkn rs_kn
  by_cases c : sp_alone Z.1.1 (nI k) = 0
  · rw [if_pos c, if_pos (e.mp c)]
  · rw [if_neg c, if_neg (mt e.mpr c), nI_clamp (by omega)]
    exact hS.value (by omega) c
theorem pl_at (h : RelR K P seed wN j xsf ouf Z) (hK : K ≤ 32) (hP : P ≤ 8) (hPl : Z.2.2.2.2.2 = 0 → Pl = sp_run Z.2.2.2.1 (P + Z.2.2.2.2.1) (K + P) (K + P) (sp_run0 (K + P))) {k : Nat} (hk : k < K + P) : sp_fpl K P (sp_fresh Z.2.2.2.2.2 Z.2.2.2.1 (P + Z.2.2.2.2.1) (K + P) Pl) (nI k) = rs_pl K P seed wN j xsf (P + Z.2.2.2.2.1) 41 (jv_lshl 1 (nI (K + P)) - 1) (rs_clr sts 40) k := by
  unfold sp_fpl
  rw [if_neg (sp_has_nI hk (by omega))]
  exact (fresh_M h hK hP hPl).at (by omega)
theorem frm_eq (hK : K ≤ 32) (hP : P ≤ 8) (hW : eq_W w wN) (htot : 0 < rs_ws wN 12) (hT : T = nI (rs_ws wN 12)) (hsy : ∀ i, i < 32 → sy i = syf (32 * j + i)) (hsu : eq_SU K P seed su) {x : Nat} (hx : x ≤ 65535) : sp_frm K P S seed w T su sy (nI x) = (rs_out syf j K seed (rs_row K P seed wN (nI x)) P, S) := by
  unfold sp_frm
  rw [hT, eq_row hW htot (nI_pos (by omega)), eq_out hK hP (fun i hi => hsy i (by omega)) hsu]
theorem src_at {k0 p0 z0 : Int32} {cnt : Nat} {wt wm : Nat → Int32} (hR : RelW wt wm wN) (h : sp_srcr cnt wt k0 p0 z0 = 0) (hc : cnt ≤ 4) : ∃ K P S : Nat, k0 = nI K ∧ p0 = nI P ∧ z0 = nI S ∧ cnt < 4 ∧ 1 ≤ K ∧ K ≤ 32 ∧ P ≤ 8 ∧ 1 ≤ S ∧ S ≤ 8 ∧ 0 < rs_ws wN 12 ∧ ¬ bx_sum wt 12 = 0 ∧ ¬ rs_wsum wm 12 = 0 := by
  unfold sp_srcr at h
  have lift : ∀ x : Int32, ¬ x < 1 → ¬ x < 0 := fun x q r => q (by
    rw [Int32.lt_iff_toInt_lt] at r ⊢
    have e0 : (0 : Int32).toInt = 0 := rfl
    have e1 : (1 : Int32).toInt = 1 := rfl
    omega)
  by_cases c1 : k0 < 1
  · rw [if_pos c1] at h; exact absurd h (by decide)
  rw [if_neg c1] at h
  by_cases c2 : 32 < k0
  · rw [if_pos c2] at h; exact absurd h (by decide)
  rw [if_neg c2] at h
  by_cases c3 : p0 < 0
  · rw [if_pos c3] at h; exact absurd h (by decide)
  rw [if_neg c3] at h
  by_cases c4 : 8 < p0
  · rw [if_pos c4] at h; exact absurd h (by decide)
  rw [if_neg c4] at h
  by_cases c5 : z0 < 1
  · rw [if_pos c5] at h; exact absurd h (by decide)
  rw [if_neg c5] at h
  by_cases c6 : z0 ≤ 8
  · rw [if_pos c6] at h
    by_cases c7 : bx_sum wt 12 = 0
    · rw [if_pos c7] at h; exact absurd h (by decide)
    rw [if_neg c7] at h
    by_cases c8 : nI cnt < 4
    · obtain ⟨K, hK, rfl⟩ := nI_of (lift k0 c1)
      obtain ⟨P, hP, rfl⟩ := nI_of c3
      obtain ⟨S, hS, rfl⟩ := nI_of (lift z0 c5)
      obtain ⟨s1, s2, s3⟩ := hR.sum
      refine ⟨K, P, S, rfl, rfl, rfl, (nI_ltI (a := cnt) (b := 4) (by omega) (by omega)).mp c8, ?_, ?_, ?_, ?_, (nI_leI (a := S) (b := 8) hS (by omega)).mp c6, ?_, c7, by rw [s2, ← s1]; exact c7⟩
      · rcases Nat.lt_or_ge K 1 with q | q
        · exact absurd ((nI_ltI (a := K) (b := 1) hK (by omega)).mpr q) c1
        · exact q
      · rcases Nat.lt_or_ge 32 K with q | q
        · exact absurd ((nI_ltI (a := 32) (b := K) (by omega) hK).mpr q) c2
        · exact q
      · rcases Nat.lt_or_ge 8 P with q | q
        · exact absurd ((nI_ltI (a := 8) (b := P) (by omega) hP).mpr q) c4
        · exact q
      · rcases Nat.lt_or_ge S 1 with q | q
        · exact absurd ((nI_ltI (a := S) (b := 1) hS (by omega)).mpr q) c5
        · exact q
      · rcases Nat.eq_zero_or_pos (rs_ws wN 12) with q | q
        · rw [s1, q] at c7; exact absurd nI_0 c7
        · exact q
    · rw [if_neg c8] at h; exact absurd h (by decide)
  · rw [if_neg c6] at h; exact absurd h (by decide)
theorem bx_cpy {wt : Nat → Int32} : ∀ n, n ≤ 12 → bx_sum (va_cpy wt (fun _ => 0) 0 0 12) n = bx_sum wt n := by
  intro n
  induction n with
  | zero => intro _; rfl
  | succ n ih =>
    intro hn
    show bx_sum (va_cpy wt (fun _ => 0) 0 0 12) n + va_cpy wt (fun _ => 0) 0 0 12 n = bx_sum wt n + wt n
    rw [ih (by omega), pk_cpy_in (by omega) (by omega), Nat.sub_zero, Nat.zero_add]
end
