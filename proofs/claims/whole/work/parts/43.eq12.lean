/-! taking up again; degrees, sources, symbols -/
section
variable {K P S : Nat} {seed : Int32} {w : Nat → Int32} {wN : Nat → Nat} {j : Nat} {xsf imf fi : Nat → Int32} {ouf su : Nat → Int64} {Z : RcT} {S1 : SpS} {isz n : Nat}
theorem RelR.resl (hK1 : 1 ≤ K) (hK : K ≤ 32) (hP : P ≤ 8) (hS : S ≤ 8) (hW : eq_W w wN) (hT : 0 < rs_ws wN 12) (hu : eq_SU K P seed su) (hB : RelB isz fi imf) (hi : isz ≤ 651) (hn : isz = 11 + n * (2 + S)) : ∀ k, k ≤ n →
    RelR K P seed wN j (rs_resl K P seed wN j S imf xsf ouf S1 k).1 (rs_resl K P seed wN j S imf xsf ouf S1 k).2.1 (sp_rd K P S seed w (nI (rs_ws wN 12)) isz fi su Z k) ∧ (rs_resl K P seed wN j S imf xsf ouf S1 k).2.2.1 = (sp_rd K P S seed w (nI (rs_ws wN 12)) isz fi su Z k).2.2.2.2.1 ∧ (sp_rd K P S seed w (nI (rs_ws wN 12)) isz fi su Z k).2.2.2.2.2 = 1 ∧
    (∀ i, i ≠ j → (∀ q, q < 64 → (rs_resl K P seed wN j S imf xsf ouf S1 k).1 (64 * i + q) = xsf (64 * i + q)) ∧ (∀ q, q < 64 → (rs_resl K P seed wN j S imf xsf ouf S1 k).2.1 (64 * i + q) = ouf (64 * i + q))) := by
  intro k
  induction k with
  | zero =>
    intro _
    exact ⟨RelR.start hK hP hu, rfl, rfl, fun i _ => ⟨fun _ _ => rfl, fun _ _ => rfl⟩⟩
  | succ k ih =>
    intro hk
    obtain ⟨h1, h2, h3, h4⟩ := ih (by omega)
    have hkn : k * (2 + S) + (2 + S) ≤ n * (2 + S) := by
      have := Nat.mul_le_mul_right (2 + S) hk
      rw [Nat.succ_mul] at this; exact this
    have ex0 := eq_num (len := isz) (f := fi) (g := imf) (fr := 9 + k * (2 + S)) (by omega) 2 (by omega) (fun i hi => (hB i hi).1)
    have eo : sp_num isz fi (nI (9 + (k * (2 + S))) + 2) S = rs_num imf (11 + (k * (2 + S))) S := by
      have e9 : nI (9 + (k * (2 + S))) + 2 = nI (11 + (k * (2 + S))) := by
        rw [show nI (9 + (k * (2 + S))) + 2 = nI (9 + (k * (2 + S)) + 2) from nI_add _ 2]
        congr 1; omega
      rw [e9]
      exact eq_num (by omega) S (by omega) (fun i hi => (hB i hi).1)
    obtain ⟨y, hy, b1, -, -⟩ := num2 (f := imf) (fr := 9 + k * (2 + S)) (hB _ (by omega)).2 (hB _ (by omega)).2
    have hn0 : ¬ nI y < 0 := nI_pos (by omega)
    obtain ⟨X, hX⟩ : ∃ X, X = rs_resl K P seed wN j S imf xsf ouf S1 k := ⟨_, rfl⟩
    obtain ⟨Y, hY⟩ : ∃ Y, Y = sp_rd K P S seed w (nI (rs_ws wN 12)) isz fi su Z k := ⟨_, rfl⟩
    have eX : rs_resl K P seed wN j S imf xsf ouf S1 (k + 1) = rs_res1 K P seed wN j S imf k X := by rw [hX]; rfl
    have eY : sp_rd K P S seed w (nI (rs_ws wN 12)) isz fi su Z (k + 1) = (sp_acc P (rs_row K P seed wN (nI y)) (nI y) (rs_num imf (11 + (k * (2 + S))) S) Y).2 := by
      rw [hY]
      show sp_rds K P S seed w (nI (rs_ws wN 12)) isz fi k _ = _
      unfold sp_rds
      rw [ex0, b1, lN_i, eq_row hW hT hn0, eo]
    rw [eX, eY]
    rw [← hX, ← hY] at h1 h2
    rw [← hY] at h3
    rw [← hX] at h4
    unfold rs_res1
    rw [b1, lN_i, h2]
    rcases h1.acc (out := rs_num imf (11 + (k * (2 + S))) S) hK1 hK hP hn0 with ⟨p1, p2⟩ | ⟨p1, p2, p3⟩ | ⟨p1, p2, p3, p4⟩ | ⟨p1, p2, p3, p4, p5⟩
    · rw [p1, if_neg p2]; exact ⟨h1, h2, h3, h4⟩
    · rw [p1, if_pos p2, if_pos (show (64 : Int32) ≤ nI Y.2.2.2.2.1 by rw [p3]; decide)]; exact ⟨h1, h2, h3, h4⟩
    · rw [p1, if_pos p2, if_neg (show ¬ (64 : Int32) ≤ nI Y.2.2.2.2.1 from nI_ge (a := Y.2.2.2.2.1) (b := 64) p3 (by omega)), if_neg (p4 _)]; exact ⟨h1, rfl, h3, h4⟩
    · rw [p1, if_pos p2, if_neg (show ¬ (64 : Int32) ≤ nI Y.2.2.2.2.1 from nI_ge (a := Y.2.2.2.2.1) (b := 64) p3 (by omega)), if_pos (p4 _)]
      refine ⟨p5, rfl, rfl, fun i hij => ⟨fun q hq => ?_, fun q hq => ?_⟩⟩
      · show upd X.1 _ _ _ = _
        rw [pk_un (by omega)]; exact (h4 i hij).1 q hq
      · show vp_updL X.2.1 _ _ _ = _
        rw [pk_uLn (by omega)]; exact (h4 i hij).2 q hq
/-- what is wrong with an image, in both -/
theorem eq_fault (hB : RelB isz fi imf) (hi : isz ≤ 651) (hS : S ≤ 8) :
    (sp_fault K P S seed isz fi = 0 ∧ ∃ n : Nat, n ≤ 700 ∧ imf 0 = nI K ∧ imf 1 = nI P ∧ imf 2 = nI S ∧ (rs_num imf 3 4).toInt32 = seed ∧ (rs_num imf 7 2).toInt32 = nI n ∧ isz = 11 + (n * (2 + S)) ∧ lg_cmp (rs_num imf (isz - 2) 2) (rs_crc imf (isz - 2)).toInt64 = 0 ∧ ((sp_num isz fi 7 2).toInt32).toNatClampNeg = n) ∨
    (¬ sp_fault K P S seed isz fi = 0 ∧ ¬ rs_rf K P S seed isz imf = 0 ∧ (-10) - sp_fault K P S seed isz fi = rs_rf K P S seed isz imf) := by
  unfold sp_fault rs_rf
  by_cases c0 : (11 : Int32) ≤ nI isz
  · have h11 : 11 ≤ isz := (nI_leI (a := 11) (b := isz) (by omega) (by omega)).mp c0
    have ha : ∀ k, k < 11 → sp_at isz fi (nI k) = imf k := fun k hk => by rw [eq_at (by omega) (by omega), (hB k (by omega)).1]
    have a0 : sp_at isz fi 0 = imf 0 := ha 0 (by omega)
    have a1 : sp_at isz fi 1 = imf 1 := ha 1 (by omega)
    have a2 : sp_at isz fi 2 = imf 2 := ha 2 (by omega)
    have a3 : sp_num isz fi 3 4 = rs_num imf 3 4 := eq_num (fr := 3) (by omega) 4 (by omega) (fun i hi => (hB i hi).1)
    have a7 : sp_num isz fi 7 2 = rs_num imf 7 2 := eq_num (fr := 7) (by omega) 2 (by omega) (fun i hi => (hB i hi).1)
    rw [if_pos c0, if_pos c0, a0, a1, a2, a3, a7]
    have r12 : ¬ (2 : Int32) = 0 ∧ ¬ (-12 : Int32) = 0 ∧ (-10 : Int32) - 2 = -12 := by decide
    by_cases c1 : imf 0 = nI K
    · rw [if_pos c1, if_pos c1]
      by_cases c2 : imf 1 = nI P
      · rw [if_pos c2, if_pos c2]
        by_cases c3 : imf 2 = nI S
        · rw [if_pos c3, if_pos c3]
          by_cases c4 : (rs_num imf 3 4).toInt32 = seed
          · rw [if_pos c4, if_pos c4]
            obtain ⟨y, hy, b1, -, -⟩ := num2 (f := imf) (fr := 7) (hB 7 (by omega)).2 (hB 8 (by omega)).2
            have ey : (rs_num imf 7 2).toInt32 = nI y := by rw [b1, lN_i]
            rw [ey]
            have hm : y * (2 + S) ≤ 65535 * 10 := Nat.mul_le_mul (by omega) (by omega)
            have l1 : ((9 : Int32) + (nI y * nI (2 + S))) + 2 = nI (11 + y * (2 + S)) := by
              rw [pk_mul, show (9 : Int32) + nI (y * (2 + S)) = nI (9 + y * (2 + S)) from nI_add 9 _, show nI (9 + y * (2 + S)) + 2 = nI (9 + y * (2 + S) + 2) from nI_add _ 2]
              congr 1; omega
            have l2 : (11 : Int32) + (nI y * nI (2 + S)) = nI (11 + y * (2 + S)) := by
              rw [pk_mul]; exact nI_add 11 _
            rw [l1, l2]
            by_cases c5 : nI isz = nI (11 + y * (2 + S))
            · have e5 := (nI_eq (by omega) (by omega)).mp c5
              rw [if_pos c5, if_pos c5]
              obtain ⟨x, c, hx, hc, d1, -, -, d4, d5⟩ := hB.sum (by omega) (by omega)
              rw [d1, d4, nI_l (by omega), d5]
              by_cases q : x = c
              · rw [if_pos q, if_neg (by decide)]
                have hyS : y ≤ y * (2 + S) := Nat.le_mul_of_pos_right _ (by omega)
                exact Or.inl ⟨rfl, y, by omega, c1, c2, c3, c4, rfl, e5, lg_cmp0.mpr (by rw [q]), nI_clamp (by omega)⟩
              · rw [if_neg q, if_pos rfl, if_neg (mt lg_cmp0.mp (mt (lN_eq (by omega) (by omega)).mp q))]
                exact Or.inr ⟨by decide, by decide, by decide⟩
            · rw [if_neg c5, if_neg c5]; exact Or.inr ⟨by decide, by decide, by decide⟩
          · rw [if_neg c4, if_neg c4]; exact Or.inr r12
        · rw [if_neg c3, if_neg c3]; exact Or.inr r12
      · rw [if_neg c2, if_neg c2]; exact Or.inr r12
    · rw [if_neg c1, if_neg c1]; exact Or.inr r12
  · rw [if_neg c0, if_neg c0]; exact Or.inr ⟨by decide, by decide, by decide⟩
end
/-- the weights that stand, in both -/
def RelW (wt wm : Nat → Int32) (wN : Nat → Nat) : Prop := (∀ d, d < 13 → wm d = nI (wN d) ∧ wN d ≤ 100) ∧ ∀ d, d < 12 → wt d = wm (d + 1)
theorem RelW.eqW {wt wm : Nat → Int32} {wN : Nat → Nat} (h : RelW wt wm wN) : eq_W wt wN := fun d hd => ⟨by rw [h.2 d hd, (h.1 (d + 1) (by omega)).1], (h.1 (d + 1) (by omega)).2⟩
theorem RelW.sum {wt wm : Nat → Int32} {wN : Nat → Nat} (h : RelW wt wm wN) : bx_sum wt 12 = nI (rs_ws wN 12) ∧ rs_wsum wm 12 = nI (rs_ws wN 12) ∧ rs_ws wN 12 ≤ 1200 := by
  have a := eq_ws h.eqW 12 (Nat.le_refl _)
  refine ⟨a.1, ?_, a.2⟩
  have k : ∀ n, n ≤ 12 → rs_wsum wm n = nI (rs_ws wN n) := by
    intro n
    induction n with
    | zero => intro _; rfl
    | succ n ih =>
      intro hn
      show rs_wsum wm n + wm (n + 1) = nI (rs_ws wN n + wN (n + 1))
      rw [ih (by omega), (h.1 (n + 1) (by omega)).1, nI_add]
  exact k 12 (Nat.le_refl _)
theorem RelW.deg {wt wm : Nat → Int32} {wN : Nat → Nat} (h : RelW wt wm wN) (d v : Int32) : sp_degr wt d v = rs_degr wm d v ∧ ∃ wN2, RelW (sp_degw wt d v) (rs_degw wm d v) wN2 := by
  unfold sp_degr rs_degr sp_degw rs_degw
  by_cases c1 : d < 1
  · rw [if_pos c1, if_pos c1, if_pos c1, if_pos c1]; exact ⟨rfl, wN, h⟩
  · rw [if_neg c1, if_neg c1, if_neg c1, if_neg c1]
    by_cases c2 : d ≤ 12
    · rw [if_pos c2, if_pos c2, if_pos c2, if_pos c2]
      have h0 : ¬ d < 0 := fun q => c1 (by
        rw [Int32.lt_iff_toInt_lt] at q ⊢
        have e0 : (0 : Int32).toInt = 0 := rfl
        have e1 : (1 : Int32).toInt = 1 := rfl
        omega)
      obtain ⟨a, ha, rfl⟩ := nI_of h0
      have a1 : ¬ a < 1 := fun q => c1 ((nI_ltI (a := a) (b := 1) ha (by omega)).mpr q)
      have a2 : a ≤ 12 := (nI_leI (a := a) (b := 12) ha (by omega)).mp c2
      have e : (nI a - 1).toNatClampNeg = a - 1 := by
        rw [show nI a - 1 = nI (a - 1) from pk_sub (a := a) (b := 1) (by omega), nI_clamp (by omega)]
      rw [e, nI_clamp ha]
      have ew : wt (a - 1) = wm a := by
        have := h.2 (a - 1) (by omega)
        rw [show a - 1 + 1 = a from by omega] at this; exact this
      by_cases c3 : v < 0
      · rw [if_pos c3, if_pos c3, if_pos c3, if_pos c3]; exact ⟨rfl, wN, h⟩
      · rw [if_neg c3, if_neg c3, if_neg c3, if_neg c3]
        by_cases c4 : v ≤ 100
        · rw [if_pos c4, if_pos c4, if_pos c4, if_pos c4]
          obtain ⟨b, hb, rfl⟩ := nI_of c3
          have b2 : b ≤ 100 := (nI_leI (a := b) (b := 100) hb (by omega)).mp c4
          refine ⟨ew, fun q => if q = a then b else wN q, fun q hq => ?_, fun q hq => ?_⟩
          · show upd wm a (nI b) q = nI (if q = a then b else wN q) ∧ (if q = a then b else wN q) ≤ 100
            by_cases c5 : q = a
            · rw [if_pos c5, c5, pk_us]; exact ⟨rfl, b2⟩
            · rw [if_neg c5, pk_un c5]; exact h.1 q hq
          · by_cases c5 : q = a - 1
            · rw [c5, pk_us, show a - 1 + 1 = a from by omega, pk_us]
            · rw [pk_un c5, pk_un (by omega)]; exact h.2 q hq
        · rw [if_neg c4, if_neg c4, if_neg c4, if_neg c4]; exact ⟨rfl, wN, h⟩
    · rw [if_neg c2, if_neg c2, if_neg c2, if_neg c2]; exact ⟨rfl, wN, h⟩
theorem cpt_pt {wt f : Nat → Int32} {c : Nat} : ∀ n q, rs_cpt wt c f n q = if 13 * c ≤ q ∧ q < 13 * c + n then wt (q - 13 * c) else f q := by
  intro n
  induction n with
  | zero => intro q; rw [if_neg (by omega)]; rfl
  | succ n ih =>
    intro q
    show upd (rs_cpt wt c f n) (13 * c + n) (wt n) q = _
    by_cases e : q = 13 * c + n
    · subst e; rw [pk_us, if_pos (by omega), show 13 * c + n - 13 * c = n from by omega]
    · rw [pk_un e, ih]
      by_cases d : 13 * c ≤ q ∧ q < 13 * c + n
      · rw [if_pos d, if_pos (by omega)]
      · rw [if_neg d, if_neg (by omega)]
theorem zs_pt {f : Nat → Int64} {c : Nat} : ∀ n q, rs_zs c f n q = if 32 * c ≤ q ∧ q < 32 * c + n then 0 else f q := by
  intro n
  induction n with
  | zero => intro q; rw [if_neg (by omega)]; rfl
  | succ n ih =>
    intro q
    show vp_updL (rs_zs c f n) (32 * c + n) 0 q = _
    by_cases e : q = 32 * c + n
    · subst e; rw [pk_uLs, if_pos (by omega)]
    · rw [pk_uLn e, ih]
      by_cases d : 32 * c ≤ q ∧ q < 32 * c + n
      · rw [if_pos d, if_pos (by omega)]
      · rw [if_neg d, if_neg (by omega)]
theorem zw_pt {f : Nat → Int32} {c : Nat} : ∀ n q, rs_zw c f n q = if 3 * c ≤ q ∧ q < 3 * c + n then 0 else f q := by
  intro n
  induction n with
  | zero => intro q; rw [if_neg (by omega)]; rfl
  | succ n ih =>
    intro q
    show upd (rs_zw c f n) (3 * c + n) 0 q = _
    by_cases e : q = 3 * c + n
    · subst e; rw [pk_us, if_pos (by omega)]
    · rw [pk_un e, ih]
      by_cases d : 3 * c ≤ q ∧ q < 3 * c + n
      · rw [if_pos d, if_pos (by omega)]
      · rw [if_neg d, if_neg (by omega)]
theorem eq_setsym {K S i : Nat} {sy : Nat → Int64} {v : Int64} (hi : i < K) (hK : K ≤ 32) (hS : S ≤ 8) : sp_setsym K S sy (nI i) v = vp_updL sy i (rs_low S v) := by
  unfold sp_setsym rs_low
  rw [if_neg (sp_has_nI hi (by omega)), nI_clamp (by omega)]
  by_cases c : S = 8
  · rw [if_pos (show (8 : Int32) ≤ nI S by rw [c]; decide), if_pos (by rw [c]; rfl)]
  · rw [if_neg (show ¬ (8 : Int32) ≤ nI S from nI_ge (a := S) (b := 8) (by omega) (by omega)), if_neg (show ¬ nI S = 8 from fun q => c ((nI_eq (a := S) (b := 8) (by omega) (by omega)).mp q))]
theorem eq_srcr {cnt : Nat} {wt wm : Nat → Int32} {wN : Nat → Nat} {k p z : Int32} (h : RelW wt wm wN) (hc : cnt ≤ 4) : sp_srcr cnt wt k p z = rs_srcr cnt wm k p z := by
  unfold sp_srcr rs_srcr
  rw [h.sum.1, h.sum.2.1]
  have e : (if nI cnt < 4 then (0 : Int32) else -4) = (if nI cnt = 4 then -4 else 0) := by
    by_cases c : cnt = 4
    · rw [c]; rfl
    · rw [if_pos (show nI cnt < (4 : Int32) from nI_lt (a := cnt) (b := 4) (by omega) (by omega)), if_neg (show ¬ nI cnt = 4 from fun q => c ((nI_eq (a := cnt) (b := 4) (by omega) (by omega)).mp q))]
  rw [e]
