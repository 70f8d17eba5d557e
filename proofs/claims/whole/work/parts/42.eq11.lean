/-! frames and images, byte by byte; taking up again -/
theorem lN_shr {a k : Nat} (ha : a < 2 ^ 63) (hk : k < 64) : jv_lshr (lN a) (nI k) = lN (a / 2 ^ k) := by
  apply Int64.toBitVec_inj.mp
  apply BitVec.eq_of_toNat_eq
  have e : (jv_lshr (lN a) (nI k)).toBitVec = (lN a).toBitVec.sshiftRight k := by
    unfold jv_lshr
    rw [Int64.toBitVec_shiftRight]
    show (lN a).toBitVec.sshiftRight (((nI k).toInt64 &&& 63).toBitVec.smod 64).toNat = _
    rw [gb_cs k hk]
  have hm : (lN a).toBitVec.msb = false := by
    rw [BitVec.msb_eq_false_iff_two_mul_lt, lN_tn (by omega)]; omega
  have hd : a / 2 ^ k ≤ a := Nat.div_le_self _ _
  rw [e, BitVec.sshiftRight_eq_of_msb_false hm, BitVec.toNat_ushiftRight, lN_tn (by omega), lN_tn (by omega), Nat.shiftRight_eq_div_pow]
theorem byN {a c : Nat} (ha : a < 2 ^ 31) (hc : c < 4) : (jv_lshr (nI a).toInt64 (nI (8 * c))).toInt32 &&& 255 = nI (a / 2 ^ (8 * c) % 256) := by
  have hd : a / 2 ^ (8 * c) ≤ a := Nat.div_le_self _ _
  rw [nI_l ha, lN_shr (by omega) (by omega), lN_i]
  exact pk_andN (by omega) 8 (by decide)
theorem ap_step {N : Nat} {v : Int64} {c n : Nat} {B : (Nat → Int32) × Nat} {g : Nat → Int32} (hB : B.2 = n) (h : RelB n B.1 g) (hn : n + c ≤ N) (hc : c ≤ 8) (hN : N < 2 ^ 30) (hg : ∀ k, k < c → g (n + k) = (jv_lshr v (nI (8 * (c - 1 - k)))).toInt32 &&& 255) : (sp_ap N v c B).2 = n + c ∧ RelB (n + c) (sp_ap N v c B).1 g := by
  obtain ⟨a, b⟩ := eq_app (num := v) hN c B.1 B.2 (by omega)
  refine ⟨by show (sp_app N v c B.1 B.2).2 = _; rw [a, hB], fun i hi => ?_⟩
  show (sp_app N v c B.1 B.2).1 i = g i ∧ _
  rw [b i, hB]
  by_cases q : n ≤ i ∧ i < n + c
  · rw [if_pos q, eq_byte v (by omega)]
    have e := hg (i - n) (by omega)
    rw [show n + (i - n) = i from by omega] at e
    exact ⟨e.symm, by rw [e]; exact bB_and _⟩
  · rw [if_neg q]; exact h i (by omega)
/-- with its own sum behind it -/
theorem sum_step {N n : Nat} {B : (Nat → Int32) × Nat} {g G : Nat → Int32} {x : Int32} (hB : B.2 = n) (h : RelB n B.1 g) (hn : n + 2 ≤ N) (hN : N < 2 ^ 30) (hx : x = rs_crc g n) (hG : ∀ i, i < n → G i = g i) (h1 : G n = (rs_crc g n) >>> ((8 : Int32) &&& 31)) (h2 : G (n + 1) = (rs_crc g n) &&& 255) : (sp_ap N x.toInt64 2 B).2 = n + 2 ∧ RelB (n + 2) (sp_ap N x.toInt64 2 B).1 G := by
  obtain ⟨c, hc, e⟩ := cB_crc (f := g) n (fun i hi => (h i hi).2)
  refine ap_step hB (fun i hi => by rw [hG i hi]; exact h i hi) hn (by omega) hN (fun k hk => ?_)
  have e1 : (rs_crc g n) >>> ((8 : Int32) &&& 31) = nI (c / 256) := by rw [e]; exact pk_shrN (by omega) _ 8 sh8
  have e2 : (rs_crc g n) &&& 255 = nI (c % 256) := by rw [e]; exact pk_andN (by omega) 8 (by decide)
  rw [hx, e, byN (by omega) (by omega)]
  rcases (show k = 0 ∨ k = 1 by omega) with rfl | rfl
  · rw [Nat.add_zero, h1, e1, show c / 2 ^ (8 * (2 - 1 - 0)) % 256 = c / 256 from by rw [show 2 ^ (8 * (2 - 1 - 0)) = 256 from rfl]; omega]
  · rw [h2, e2, show c / 2 ^ (8 * (2 - 1 - 1)) % 256 = c % 256 from by rw [show 2 ^ (8 * (2 - 1 - 1)) = 1 from rfl]; omega]
theorem frl_pt {v : Int64} {S : Nat} {f : Nat → Int32} : ∀ n, n ≤ S → ∀ i, rs_frl v S f n i = if 2 ≤ i ∧ i < 2 + n then (jv_lshr v (nI (8 * (S - 1 - (i - 2))))).toInt32 &&& 255 else f i := by
  intro n
  induction n with
  | zero => intro _ i; rw [if_neg (by omega)]; rfl
  | succ n ih =>
    intro hn i
    have e : 8 * ((nI S - 1) - nI n) = nI (8 * (S - 1 - n)) := by
      rw [show nI S - 1 = nI (S - 1) from pk_sub (a := S) (b := 1) (by omega), pk_sub (by omega)]
      exact pk_mul 8 (S - 1 - n)
    show upd (rs_frl v S f n) (2 + n) ((jv_lshr v (8 * ((nI S - 1) - nI n))).toInt32 &&& 255) i = _
    rw [e]
    by_cases c : i = 2 + n
    · subst c; rw [pk_us, if_pos (by omega), show 2 + n - 2 = n from by omega]
    · rw [pk_un c, ih (by omega)]
      by_cases d : 2 ≤ i ∧ i < 2 + n
      · rw [if_pos d, if_pos (by omega)]
      · rw [if_neg d, if_neg (by omega)]
theorem eq_frame {S xx : Nat} {ff frf : Nat → Int32} {v : Int64} (hS : S ≤ 8) (hx : xx ≤ 65535) : (sp_frb ff (v, S) (nI xx)).2 = S + 4 ∧ RelB (S + 4) (sp_frb ff (v, S) (nI xx)).1 (rs_signf 1 (S + 4) (rs_frl v S (upd (upd frf 0 ((nI xx) >>> ((8 : Int32) &&& 31))) 1 ((nI xx) &&& 255)) S)) := by
  have e0 : (nI xx) >>> ((8 : Int32) &&& 31) = nI (xx / 256) := pk_shrN (by omega) _ 8 sh8
  have e1 : (nI xx) &&& 255 = nI (xx % 256) := pk_andN (by omega) 8 (by decide)
  rw [e0, e1]
  obtain ⟨g, hg⟩ : ∃ g, g = rs_frl v S (upd (upd frf 0 (nI (xx / 256))) 1 (nI (xx % 256))) S := ⟨_, rfl⟩
  have gp := frl_pt (v := v) (S := S) (f := upd (upd frf 0 (nI (xx / 256))) 1 (nI (xx % 256))) S (Nat.le_refl _)
  rw [← hg] at gp ⊢
  have s1 := ap_step (N := 12) (v := (nI xx).toInt64) (c := 2) (n := 0) (B := (ff, 0)) (g := g) rfl (fun i hi => absurd hi (Nat.not_lt_zero _)) (by omega) (by omega) (by omega) (fun k hk => by
    rw [byN (by omega) (by omega), gp]
    rcases (show k = 0 ∨ k = 1 by omega) with rfl | rfl
    · rw [if_neg (by omega), pk_un (by omega), Nat.add_zero, pk_us, show xx / 2 ^ (8 * (2 - 1 - 0)) % 256 = xx / 256 from by rw [show 2 ^ (8 * (2 - 1 - 0)) = 256 from rfl]; omega]
    · rw [if_neg (by omega), show 0 + 1 = 1 from rfl, pk_us, show xx / 2 ^ (8 * (2 - 1 - 1)) % 256 = xx % 256 from by rw [show 2 ^ (8 * (2 - 1 - 1)) = 1 from rfl]; omega])
  obtain ⟨B1, hB1⟩ : ∃ B, B = sp_ap 12 (nI xx).toInt64 2 (ff, 0) := ⟨_, rfl⟩
  rw [← hB1] at s1
  have s2 := ap_step (N := 12) (v := v) (c := S) (n := 2) (B := B1) (g := g) s1.1 s1.2 (by omega) (by omega) (by omega) (fun k hk => by
    rw [gp, if_pos (by omega), show 2 + k - 2 = k from by omega])
  obtain ⟨B2, hB2⟩ : ∃ B, B = sp_ap 12 v S B1 := ⟨_, rfl⟩
  rw [← hB2] at s2
  have ec : sp_crc B2.2 B2.1 B2.2 = rs_crc g (2 + S) := by
    rw [s2.1]; exact eq_crc (by omega) _ (Nat.le_refl _) (fun i hi => (s2.2 i hi).1)
  have s3 := sum_step (N := 12) (n := 2 + S) (B := B2) (g := g) (G := rs_signf 1 (S + 4) g) (x := sp_crc B2.2 B2.1 B2.2) s2.1 s2.2 (by omega) (by omega) ec
    (fun i hi => by unfold rs_signf; rw [if_neg (by decide), pk_un (by omega), pk_un (by omega)])
    (by unfold rs_signf; rw [if_neg (by decide), pk_un (by omega), show S + 4 - 2 = 2 + S from by omega, pk_us])
    (by unfold rs_signf; rw [if_neg (by decide), show S + 4 - 1 = 2 + S + 1 from by omega, pk_us, show S + 4 - 2 = 2 + S from by omega])
  have eb : sp_frb ff (v, S) (nI xx) = sp_ap 12 (sp_crc B2.2 B2.1 B2.2).toInt64 2 B2 := by rw [hB2, hB1]; rfl
  rw [eb, show S + 4 = 2 + S + 2 from by omega]
  rw [show S + 4 = 2 + S + 2 from by omega] at s3
  exact s3
theorem eq_sign {n : Nat} {ff frf : Nat → Int32} (h : RelB (n + 2) ff frf) (hn : n + 2 ≤ 12) : sp_crc (n + 2) ff n = rs_crc frf n ∧ (sp_app 12 (sp_crc (n + 2) ff n).toInt64 2 ff n).2 = n + 2 ∧ RelB (n + 2) (sp_app 12 (sp_crc (n + 2) ff n).toInt64 2 ff n).1 (upd (upd frf n ((rs_crc frf n) >>> ((8 : Int32) &&& 31))) (n + 1) ((rs_crc frf n) &&& 255)) := by
  have ec : sp_crc (n + 2) ff n = rs_crc frf n := eq_crc (by omega) _ (by omega) (fun i hi => (h i (by omega)).1)
  refine ⟨ec, ?_⟩
  exact sum_step (N := 12) (n := n) (B := (ff, n)) (g := frf) (x := sp_crc (n + 2) ff n) rfl (fun i hi => h i (by omega)) (by omega) (by omega) ec (fun i hi => by rw [pk_un (by omega), pk_un (by omega)]) (by rw [pk_un (by omega), pk_us]) pk_us
theorem and_xor (a v m : Int32) : (a ^^^ v) &&& m = (a &&& m) ^^^ (v &&& m) := by
  apply Int32.toBitVec_inj.mp
  apply BitVec.eq_of_getLsbD_eq
  intro i hi
  rw [Int32.toBitVec_and, Int32.toBitVec_xor, Int32.toBitVec_xor, Int32.toBitVec_and, Int32.toBitVec_and, BitVec.getLsbD_and, BitVec.getLsbD_xor, BitVec.getLsbD_xor, BitVec.getLsbD_and, BitVec.getLsbD_and]
  generalize a.toBitVec.getLsbD i = p
  generalize v.toBitVec.getLsbD i = q
  generalize m.toBitVec.getLsbD i = r
  revert p q r
  decide
theorem eq_poke {len i : Nat} {ff frf : Nat → Int32} {v : Int32} (h : RelB len ff frf) (hi : i < len) (hl : len < 2 ^ 31) : sp_put len ff (nI i) (sp_at len ff (nI i) ^^^ v) = upd ff i (frf i ^^^ (v &&& 255)) ∧ RelB len (upd ff i (frf i ^^^ (v &&& 255))) (upd frf i (frf i ^^^ (v &&& 255))) := by
  have e : (ff i ^^^ v) &&& 255 = frf i ^^^ (v &&& 255) := by rw [and_xor, (h i hi).1, bB_id (h i hi).2]
  refine ⟨by rw [eq_put hi hl, eq_at hi hl, e], fun q hq => ?_⟩
  by_cases c : q = i
  · subst c; rw [pk_us, pk_us]; exact ⟨rfl, bB_xor (h q hi).2 (bB_and _)⟩
  · rw [pk_un c, pk_un c]; exact h q hq
/-- images: both rows of bytes -/
def Rel2 (B C : (Nat → Int32) × Nat) : Prop := B.2 = C.2 ∧ RelB B.2 B.1 C.1
theorem ap2 {N : Nat} {v : Int64} {c : Nat} {B C : (Nat → Int32) × Nat} (h : Rel2 B C) (hn : B.2 + c ≤ N) (hc : c ≤ 8) (hN : N < 2 ^ 30) : Rel2 (sp_ap N v c B) (rs_sy v c C) ∧ (sp_ap N v c B).2 = B.2 + c := by
  have es : ∀ i, (rs_sy v c C).1 i = if C.2 ≤ i ∧ i < C.2 + c then (jv_lshr v (nI (8 * (c - 1 - (i - C.2))))).toInt32 &&& 255 else C.1 i := fun i => eq_say c C.1 C.2 i
  obtain ⟨a, b⟩ := ap_step (v := v) (c := c) (g := (rs_sy v c C).1) (B := B) rfl (fun i hi => by rw [es, if_neg (by rw [← h.1]; omega)]; exact h.2 i hi) hn hc hN (fun k hk => by rw [es, ← h.1, if_pos (by omega), show B.2 + k - B.2 = k from by omega])
  refine ⟨⟨?_, by rw [a]; exact b⟩, a⟩
  rw [a]
  show _ = (rs_say v c C.1 C.2).2
  rw [rs_say_2, h.1]
section
variable {K P S tk j : Nat} {seed : Int32} {nums xsf f g : Nat → Int32} {outs ouf : Nat → Int64}
theorem im5 (hf : True) : Rel2 (sp_wr5 651 K P S seed tk f) (rs_im5 K P S seed tk g) ∧ (sp_wr5 651 K P S seed tk f).2 = 9 := by
  have r0 : Rel2 (f, 0) (g, 0) := ⟨rfl, fun i hi => absurd hi (Nat.not_lt_zero _)⟩
  have r1 := ap2 (N := 651) (v := (nI K).toInt64) (c := 1) r0 (by show 0 + 1 ≤ 651; omega) (by omega) (by omega)
  have l1 : (sp_ap 651 (nI K).toInt64 1 (f, 0)).2 = 1 := r1.2
  have r2 := ap2 (N := 651) (v := (nI P).toInt64) (c := 1) r1.1 (by rw [l1]; omega) (by omega) (by omega)
  have l2 := r2.2
  rw [l1] at l2
  have r3 := ap2 (N := 651) (v := (nI S).toInt64) (c := 1) r2.1 (by rw [l2]; omega) (by omega) (by omega)
  have l3 := r3.2
  rw [l2] at l3
  have r4 := ap2 (N := 651) (v := seed.toInt64) (c := 4) r3.1 (by rw [l3]; omega) (by omega) (by omega)
  have l4 := r4.2
  rw [l3] at l4
  have r5 := ap2 (N := 651) (v := (nI tk).toInt64) (c := 2) r4.1 (by rw [l4]; omega) (by omega) (by omega)
  have l5 := r5.2
  rw [l4] at l5
  exact ⟨r5.1, l5⟩
theorem imlp (hS : S ≤ 8) {B C : (Nat → Int32) × Nat} (h : Rel2 B C) (hB : B.2 = 9) (ht : tk ≤ 64) (hx : ∀ k, k < tk → nums k = xsf (64 * j + k)) (ho : ∀ k, k < tk → outs k = ouf (64 * j + k)) : ∀ k, k ≤ tk → Rel2 (sp_wrl 651 S nums outs B k) (rs_iml S j xsf ouf C k) ∧ (sp_wrl 651 S nums outs B k).2 = 9 + k * (2 + S) := by
  intro k
  induction k with
  | zero => intro _; exact ⟨h, by show B.2 = _; rw [hB]; omega⟩
  | succ k ih =>
    intro hk
    obtain ⟨a, b⟩ := ih (by omega)
    have hm : k * (2 + S) ≤ 63 * 10 := Nat.mul_le_mul (by omega) (by omega)
    have hm2 : (k + 1) * (2 + S) = k * (2 + S) + (2 + S) := Nat.succ_mul _ _
    have r1 := ap2 (N := 651) (v := (nums k).toInt64) (c := 2) a (by rw [b]; omega) (by omega) (by omega)
    have l1 := r1.2
    rw [b] at l1
    have r2 := ap2 (N := 651) (v := outs k) (c := S) r1.1 (by rw [l1]; omega) (by omega) (by omega)
    have l2 := r2.2
    rw [l1] at l2
    have e1 : sp_wrl 651 S nums outs B (k + 1) = sp_ap 651 (outs k) S (sp_ap 651 (nums k).toInt64 2 (sp_wrl 651 S nums outs B k)) := rfl
    have e2 : rs_iml S j xsf ouf C (k + 1) = rs_sy (ouf (64 * j + k)) S (rs_sy (xsf (64 * j + k)).toInt64 2 (rs_iml S j xsf ouf C k)) := rfl
    rw [e1, e2, ← hx k (by omega), ← ho k (by omega)]
    exact ⟨r2.1, by rw [l2, hm2]; omega⟩
theorem eq_image (hS : S ≤ 8) (ht : tk ≤ 64) (hx : ∀ k, k < tk → nums k = xsf (64 * j + k)) (ho : ∀ k, k < tk → outs k = ouf (64 * j + k)) : Rel2 (sp_wr 651 K P S seed nums outs tk f) (rs_im K P S seed tk j xsf ouf g) ∧ (sp_wr 651 K P S seed nums outs tk f).2 ≤ 651 := by
  obtain ⟨a, b⟩ := im5 (K := K) (P := P) (S := S) (tk := tk) (seed := seed) (f := f) (g := g) trivial
  obtain ⟨c, d⟩ := imlp hS a b ht hx ho tk (Nat.le_refl _)
  have hm : tk * (2 + S) ≤ 64 * 10 := Nat.mul_le_mul (by omega) (by omega)
  obtain ⟨B, hB⟩ : ∃ B, B = sp_wrl 651 S nums outs (sp_wr5 651 K P S seed tk f) tk := ⟨_, rfl⟩
  obtain ⟨C, hC⟩ : ∃ C, C = rs_iml S j xsf ouf (rs_im5 K P S seed tk g) tk := ⟨_, rfl⟩
  rw [← hB, ← hC] at c
  rw [← hB] at d
  have ec : sp_crc B.2 B.1 B.2 = rs_crc C.1 C.2 := by
    rw [← c.1]; exact eq_crc (by omega) _ (Nat.le_refl _) (fun i hi => (c.2 i hi).1)
  have r := ap2 (N := 651) (v := (sp_crc B.2 B.1 B.2).toInt64) (c := 2) c (by omega) (by omega) (by omega)
  have e1 : sp_wr 651 K P S seed nums outs tk f = sp_ap 651 (sp_crc B.2 B.1 B.2).toInt64 2 B := by rw [hB]; rfl
  have e2 : rs_im K P S seed tk j xsf ouf g = rs_sy (rs_crc C.1 C.2).toInt64 2 C := by rw [hC]; rfl
  rw [e1, e2, ← ec]
  exact ⟨r.1, by rw [r.2]; omega⟩
end
