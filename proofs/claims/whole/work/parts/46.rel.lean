/-! the class and the reference beside each other -/
/-- a source of the class with its receiver: addresses, then what they hold -/
abbrev Un : Type := Nat × Nat × Nat × Nat × Nat × Nat × Nat × Nat × Nat × Nat × Nat × Nat × Nat × Nat × Nat × Int32 × Int32 × (Nat → Int32) × (Nat → Int64) × (Nat → Int64) × RcT × (Int64 × Int64 × Int64) × Int32 × Int32 × Int32
def uc (cA : Nat → ClassId) (U : Un) : va_W := match U with
  | (o, wa, ua, sa, ro, sp, sra, sva, na, oa, ra, pe, K, P, S, seed, T, w, su, sy, Z, Pl, wr, tw, co) => [(o, .inr (3, [.int (nI K), .int (nI P), .int (nI (K + P)), .int (nI S), .int seed, .ref wa, .int T, .ref ua, .ref sa])), (wa, .inl (cA 0, 12, .inl w)), (ua, .inl (cA 1, 8, .inr (.inl su))), (sa, .inl (cA 1, 32, .inr (.inl sy))), (ro, .inr (2, [.ref o, .ref sp, .ref pe, .int Z.2.2.2.2.2, .ref na, .ref oa, .ref ra, .int (nI Z.2.2.2.2.1), .int wr, .int tw, .int co])), (sp, .inr (4, [.ref sra, .ref sva, .int (nI Z.1.2.2.1), .long Z.1.2.2.2.1, .long Z.1.2.2.2.2])), (sra, .inl (cA 1, 40, .inr (.inl Z.1.1))), (sva, .inl (cA 1, 40, .inr (.inl Z.1.2.1))), (na, .inl (cA 0, 64, .inl Z.2.1)), (oa, .inl (cA 1, 64, .inr (.inl Z.2.2.1))), (ra, .inl (cA 1, 72, .inr (.inl Z.2.2.2.1))), (pe, .inr (1, [.long Pl.1, .long Pl.2.1, .long Pl.2.2]))]
def uS (U : Un) : Nat := U.2.2.2.2.2.2.2.2.2.2.2.2.2.2.1
def uO (U : Un) : Nat := U.1
def uR (U : Un) : Nat := U.2.2.2.2.1
def tl (cA : Nat → ClassId) : List Un → va_W
  | [] => []
  | U :: us => uc cA U ++ tl cA us
/-- the reference's arrays -/
abbrev MT : Type := (Nat → Int32) × (Nat → Int32) × (Nat → Int32) × (Nat → Int32) × (Nat → Int32) × (Nat → Int64) × (Nat → Int32) × (Nat → Int64) × (Nat → Int32) × (Nat → Int32)
def RelU (j : Nat) (kf pf zf ef tbf : Nat → Int32) (syf : Nat → Int64) (xsf : Nat → Int32) (ouf : Nat → Int64) (tkf wrf : Nat → Int32) (K P S : Nat) (seed T : Int32) (w : Nat → Int32) (su sy : Nat → Int64) (Z : RcT) (Pl : Int64 × Int64 × Int64) (wr tw co : Int32) : Prop :=
  ∃ wN : Nat → Nat, 1 ≤ K ∧ K ≤ 32 ∧ P ≤ 8 ∧ 1 ≤ S ∧ S ≤ 8 ∧ kf j = nI K ∧ pf j = nI P ∧ zf j = nI S ∧ ef j = seed ∧ tkf j = nI Z.2.2.2.2.1 ∧ (∀ d, d < 13 → tbf (13 * j + d) = nI (wN d)) ∧ (∀ d, d < 13 → wN d ≤ 100) ∧ 0 < rs_ws wN 12 ∧ eq_W w wN ∧ T = nI (rs_ws wN 12) ∧ (∀ i, i < 32 → sy i = syf (32 * j + i)) ∧ eq_SU K P seed su ∧ RelR K P seed wN j xsf ouf Z ∧ (Z.2.2.2.2.2 = 0 → Pl = sp_run Z.2.2.2.1 (P + Z.2.2.2.2.1) (K + P) (K + P) (sp_run0 (K + P))) ∧ wr = wrf (3 * j) ∧ tw = wrf (3 * j + 1) ∧ co = wrf (3 * j + 2)
def RelUn (j : Nat) (M : MT) (U : Un) : Prop := match M, U with
  | (kf, pf, zf, ef, tbf, syf, xsf, ouf, tkf, wrf), (_, _, _, _, _, _, _, _, _, _, _, _, K, P, S, seed, T, w, su, sy, Z, Pl, wr, tw, co) => RelU j kf pf zf ef tbf syf xsf ouf tkf wrf K P S seed T w su sy Z Pl wr tw co
/-- the reference's arrays are the same at source i -/
def AgM (i : Nat) (M N : MT) : Prop := N.1 i = M.1 i ∧ N.2.1 i = M.2.1 i ∧ N.2.2.1 i = M.2.2.1 i ∧ N.2.2.2.1 i = M.2.2.2.1 i ∧ (∀ d, d < 13 → N.2.2.2.2.1 (13 * i + d) = M.2.2.2.2.1 (13 * i + d)) ∧ (∀ k, k < 32 → N.2.2.2.2.2.1 (32 * i + k) = M.2.2.2.2.2.1 (32 * i + k)) ∧ (∀ k, k < 64 → N.2.2.2.2.2.2.1 (64 * i + k) = M.2.2.2.2.2.2.1 (64 * i + k)) ∧ (∀ k, k < 64 → N.2.2.2.2.2.2.2.1 (64 * i + k) = M.2.2.2.2.2.2.2.1 (64 * i + k)) ∧ N.2.2.2.2.2.2.2.2.1 i = M.2.2.2.2.2.2.2.2.1 i ∧ (∀ k, k < 3 → N.2.2.2.2.2.2.2.2.2 (3 * i + k) = M.2.2.2.2.2.2.2.2.2 (3 * i + k))
theorem AgM.rf (i : Nat) (M : MT) : AgM i M M := ⟨rfl, rfl, rfl, rfl, fun _ _ => rfl, fun _ _ => rfl, fun _ _ => rfl, fun _ _ => rfl, rfl, fun _ _ => rfl⟩
theorem RelUn.frame {i : Nat} {M N : MT} {U : Un} (h : RelUn i M U) (hA : AgM i M N) : RelUn i N U := by
  obtain ⟨kf, pf, zf, ef, tbf, syf, xsf, ouf, tkf, wrf⟩ := M
  obtain ⟨kf2, pf2, zf2, ef2, tbf2, syf2, xsf2, ouf2, tkf2, wrf2⟩ := N
  obtain ⟨o, wa, ua, sa, ro, sp, sra, sva, na, oa, ra, pe, K, P, S, seed, T, w, su, sy, Z, Pl, wr, tw, co⟩ := U
  obtain ⟨a1, a2, a3, a4, a5, a6, a7, a8, a9, a10⟩ := hA
  obtain ⟨wN, b1, b2, b3, b4, b5, b6, b7, b8, b9, b10, b11, b12, b13, b14, b15, b16, b17, b18, b19, b20, b21, b22⟩ := h
  exact ⟨wN, b1, b2, b3, b4, b5, a1.trans b6, a2.trans b7, a3.trans b8, a4.trans b9, a9.trans b10, fun d hd => (a5 d hd).trans (b11 d hd), b12, b13, b14, b15, fun k hk => (b16 k hk).trans (a6 k hk).symm, b17, b18.frame a7 a8, b19, b20.trans (a10 0 (by omega)).symm, b21.trans (a10 1 (by omega)).symm, b22.trans (a10 2 (by omega)).symm⟩
def RelAll (M : MT) (us : List Un) (fS fR : Nat → Option Nat) : Prop := ∀ (j : Nat) (U : Un), us[j]? = some U → RelUn j M U ∧ fS j = some (uO U) ∧ fR j = some (uR U)
theorem RelAll.set {M N : MT} {us : List Un} {fS fR : Nat → Option Nat} (h : RelAll M us fS fR) {j : Nat} {U V : Un} (hj : us[j]? = some U) (hV : RelUn j N V) (hO : uO V = uO U) (hR : uR V = uR U) (hA : ∀ i, i ≠ j → AgM i M N) : RelAll N (us.set j V) fS fR := by
  intro i X hX
  by_cases c : i = j
  · subst c
    have hl : i < us.length := by
      rcases Nat.lt_or_ge i us.length with q | q
      · exact q
      · rw [List.getElem?_eq_none q] at hj; cases hj
    rw [List.getElem?_set_self hl] at hX
    cases hX
    obtain ⟨-, b, d⟩ := h i U hj
    exact ⟨hV, by rw [hO]; exact b, by rw [hR]; exact d⟩
  · rw [List.getElem?_set_ne (fun e => c e.symm)] at hX
    obtain ⟨a, b, d⟩ := h i X hX
    exact ⟨a.frame (hA i c), b, d⟩
theorem RelAll.push {M N : MT} {us : List Un} {fS fR : Nat → Option Nat} (h : RelAll M us fS fR) {V : Un} (hV : RelUn us.length N V) (hA : ∀ i, i < us.length → AgM i M N) : RelAll N (us ++ [V]) (va_up fS us.length (some (uO V))) (va_up fR us.length (some (uR V))) := by
  intro i X hX
  have hup : ∀ (g : Nat → Option Nat) (v : Option Nat), va_up g us.length v us.length = v := fun g v => if_pos rfl
  have hun : ∀ (g : Nat → Option Nat) (v : Option Nat), i ≠ us.length → va_up g us.length v i = g i := fun g v q => if_neg q
  by_cases c : i = us.length
  · subst c
    rw [List.getElem?_append_right (Nat.le_refl _), Nat.sub_self] at hX
    cases hX
    exact ⟨hV, hup _ _, hup _ _⟩
  · have hl : i < us.length := by
      rcases Nat.lt_or_ge i us.length with q | q
      · exact q
      · rw [List.getElem?_append_right q] at hX
        rw [List.getElem?_eq_none (by show 1 ≤ _; omega)] at hX; cases hX
    rw [List.getElem?_append_left hl] at hX
    obtain ⟨a, b, d⟩ := h i X hX
    refine ⟨a.frame (hA i hl), ?_, ?_⟩
    · rw [hun _ _ c]; exact b
    · rw [hun _ _ c]; exact d
/-- the frame, in both -/
def FrR (us : List Un) (fs : Int32) (flen : Nat) (ff : Nat → Int32) (hf fro : Int32) (fsz : Nat) (frf : Nat → Int32) : Prop := (fs = -1 ∧ hf = 0 ∧ flen ≤ 12 ∧ fsz ≤ 12) ∨ ∃ (j : Nat) (U : Un), us[j]? = some U ∧ fs = nI j ∧ j < 4 ∧ fro = nI j ∧ hf = 1 ∧ uS U ≤ 8 ∧ flen = uS U + 4 ∧ fsz = uS U + 4 ∧ RelB (uS U + 4) ff frf
section
variable {us : List Un} {fs : Int32} {flen : Nat} {ff : Nat → Int32} {hf fro : Int32} {fsz : Nat} {frf : Nat → Int32}
theorem FrR.len (h : FrR us fs flen ff hf fro fsz frf) : flen ≤ 12 ∧ fsz ≤ 12 ∧ (0 ≤ fs → 2 ≤ flen) ∧ (¬ hf = 0 → 2 ≤ fsz) := by
  rcases h with ⟨a, b, c, d⟩ | ⟨j, U, a, b, b2, c, d, e, f, g, i⟩
  · exact ⟨c, d, fun q => by rw [a] at q; exact absurd q (by decide), fun q => absurd b q⟩
  · exact ⟨by omega, by omega, fun _ => by omega, fun _ => by omega⟩
theorem FrR.set (h : FrR us fs flen ff hf fro fsz frf) {j : Nat} {U V : Un} (hj : us[j]? = some U) (hS : uS V = uS U) : FrR (us.set j V) fs flen ff hf fro fsz frf := by
  rcases h with h | ⟨i, X, a, r⟩
  · exact Or.inl h
  · refine Or.inr ?_
    by_cases c : i = j
    · subst c
      have hl : i < us.length := by
        rcases Nat.lt_or_ge i us.length with q | q
        · exact q
        · rw [List.getElem?_eq_none q] at hj; cases hj
      rw [hj] at a
      cases a
      exact ⟨i, V, List.getElem?_set_self hl, by rw [hS]; exact r⟩
    · exact ⟨i, X, by rw [List.getElem?_set_ne (fun e => c e.symm)]; exact a, r⟩
theorem FrR.push (h : FrR us fs flen ff hf fro fsz frf) {V : Un} : FrR (us ++ [V]) fs flen ff hf fro fsz frf := by
  rcases h with h | ⟨i, X, a, r⟩
  · exact Or.inl h
  · refine Or.inr ⟨i, X, ?_, r⟩
    have hl : i < us.length := by
      rcases Nat.lt_or_ge i us.length with q | q
      · exact q
      · rw [List.getElem?_eq_none q] at a; cases a
    rw [List.getElem?_append_left hl]; exact a
theorem eq_has2 {n : Nat} {x : Int32} (hn : n < 2 ^ 31) : (sp_has n x = 0 ∧ (x < 0 ∨ nI n ≤ x)) ∨ ∃ k : Nat, k < n ∧ x = nI k := by
  rcases pk_ix x hn with h | h | h
  · exact Or.inl ⟨if_pos h, Or.inl h⟩
  · refine Or.inl ⟨?_, Or.inr h⟩
    unfold sp_has
    by_cases c : x < 0
    · rw [if_pos c]
    · rw [if_neg c, if_pos h]
  · exact Or.inr h
theorem FrR.fby (h : FrR us fs flen ff hf fro fsz frf) (x : Int32) : sp_fby fs flen ff x = rs_fby hf fsz frf x := by
  unfold sp_fby rs_fby
  rcases h with ⟨a, b, -, -⟩ | ⟨j, U, -, b, b2, -, d, e, f, g, i⟩
  · rw [a, b]; rfl
  · have q1 : 0 ≤ fs := by rw [b]; exact nI_pos' (by omega)
    have q2 : ¬ hf = 0 := by rw [d]; decide
    rw [if_pos q1, if_neg q2, f, g]
    rcases eq_has2 (n := uS U + 4) (x := x) (by omega) with ⟨c, q⟩ | ⟨k, hk, rfl⟩
    · rw [if_pos c]
      rcases q with q | q
      · rw [if_pos q]
      · by_cases z : x < 0
        · rw [if_pos z]
        · rw [if_neg z, if_neg (Int32.not_lt.mpr q)]
    · rw [if_neg (sp_has_nI hk (by omega)), if_neg (nI_pos (by omega)), if_pos (nI_lt hk (by omega)), nI_clamp (by omega), eq_at hk (by omega), (i k hk).1]
theorem FrR.poke (h : FrR us fs flen ff hf fro fsz frf) (x v : Int32) : sp_poker fs flen ff x v = rs_poker hf fsz frf x v ∧ FrR us fs flen (sp_pokef fs flen ff x v) hf fro fsz (rs_pokef hf fsz frf x v) := by
  unfold sp_poker rs_poker sp_pokef rs_pokef
  rcases id h with ⟨a, b, -, -⟩ | ⟨j, U, a, b, b2, c0, d, e, f, g, i⟩
  · refine ⟨by rw [a, b]; rfl, ?_⟩
    rw [if_neg (by rw [a]; decide), if_pos b]; exact h
  · have q1 : 0 ≤ fs := by rw [b]; exact nI_pos' (by omega)
    have q2 : ¬ hf = 0 := by rw [d]; decide
    rw [if_pos q1, if_pos q1, if_neg q2, if_neg q2, f, g]
    rcases eq_has2 (n := uS U + 4) (x := x) (by omega) with ⟨c, q⟩ | ⟨k, hk, rfl⟩
    · rw [if_pos c, if_pos c]
      have e9 : ∀ {α : Type} (p q r : α), (if x < 0 then p else if x < nI (uS U + 4) then q else p) = p := by
        intro α p q2 r
        rcases q with q | q
        · rw [if_pos q]
        · by_cases z : x < 0
          · rw [if_pos z]
          · rw [if_neg z, if_neg (Int32.not_lt.mpr q)]
      rw [e9 (-1 : Int32) _ 0, e9 frf _ frf]
      refine ⟨rfl, Or.inr ⟨j, U, a, b, b2, c0, d, e, rfl, rfl, i⟩⟩
    · obtain ⟨p1, p2⟩ := eq_poke (v := v) i hk (by omega)
      rw [if_neg (sp_has_nI hk (by omega)), if_neg (sp_has_nI hk (by omega)), if_neg (nI_pos (by omega)), if_neg (nI_pos (by omega)), if_pos (nI_lt hk (by omega)), if_pos (nI_lt hk (by omega)), nI_clamp (by omega), p1]
      refine ⟨?_, Or.inr ⟨j, U, a, b, b2, c0, d, e, rfl, rfl, p2⟩⟩
      rw [eq_at hk (by omega), pk_us, pk_us]
theorem FrR.sign (h : FrR us fs flen ff hf fro fsz frf) : sp_signr fs flen ff = rs_signr hf fsz frf ∧ FrR us fs (sp_signf fs flen ff).2 (sp_signf fs flen ff).1 hf fro fsz (rs_signf hf fsz frf) := by
  unfold sp_signr rs_signr sp_signf rs_signf
  rcases id h with ⟨a, b, -, -⟩ | ⟨j, U, a, b, b2, c0, d, e, f, g, i⟩
  · refine ⟨by rw [a, b]; rfl, ?_⟩
    rw [if_neg (by rw [a]; decide), if_pos b]; exact h
  · have q1 : 0 ≤ fs := by rw [b]; exact nI_pos' (by omega)
    have q2 : ¬ hf = 0 := by rw [d]; decide
    rw [if_pos q1, if_pos q1, if_neg q2, if_neg q2, f, g]
    obtain ⟨p1, p2, p3⟩ := eq_sign (n := uS U + 2) i (by omega)
    rw [show uS U + 4 - 2 = uS U + 2 from by omega, show uS U + 4 - 1 = uS U + 2 + 1 from by omega]
    refine ⟨p1, Or.inr ⟨j, U, a, b, b2, c0, d, e, p2, rfl, p3⟩⟩
end
/-- units among the cells -/
theorem kp_perm {D : va_G} {cl : List vw_C} {ws ws' : va_W} {H : Heap} (h : va_P D cl ws H) (hp : ws.Perm ws') : va_P D cl ws' H := by
  intro k q hk
  have hm : q ∈ ws := hp.mem_iff.mpr (List.mem_of_getElem? hk)
  obtain ⟨i, hi⟩ := List.getElem?_of_mem hm
  exact h i q hi
theorem kd_nodup {A : Nat → Prop} {ws : va_W} : va_D A ws ↔ (ws.map (·.1)).Nodup ∧ ∀ q ∈ ws, A q.1 := by
  constructor
  · intro h
    refine ⟨?_, fun q hq => ?_⟩
    · unfold List.Nodup
      rw [List.pairwise_iff_getElem]
      intro i j hi hj hij e
      rw [List.length_map] at hi hj
      rw [List.getElem_map, List.getElem_map] at e
      have := h.1 i j _ _ (List.getElem?_eq_getElem hi) (List.getElem?_eq_getElem hj) e
      omega
    · obtain ⟨i, hi⟩ := List.getElem?_of_mem hq
      exact h.2 i q hi
  · intro h
    refine ⟨fun i j p q hp hq e => ?_, fun k q hk => h.2 q (List.mem_of_getElem? hk)⟩
    have hn := h.1
    unfold List.Nodup at hn
    rw [List.pairwise_iff_getElem] at hn
    obtain ⟨hi, ei⟩ := List.getElem?_eq_some_iff.mp hp
    obtain ⟨hj, ej⟩ := List.getElem?_eq_some_iff.mp hq
    rcases Nat.lt_trichotomy i j with c | c | c
    · exact absurd (by rw [List.getElem_map, List.getElem_map, ei, ej]; exact e) (hn i j (by rw [List.length_map]; exact hi) (by rw [List.length_map]; exact hj) c)
    · exact c
    · exact absurd (by rw [List.getElem_map, List.getElem_map, ei, ej]; exact e.symm) (hn j i (by rw [List.length_map]; exact hj) (by rw [List.length_map]; exact hi) c)
theorem kd_perm {A : Nat → Prop} {ws ws' : va_W} (h : va_D A ws) (hp : ws.Perm ws') : va_D A ws' := by
  rw [kd_nodup] at h ⊢
  exact ⟨(hp.map _).nodup h.1, fun q hq => h.2 q (hp.mem_iff.mpr hq)⟩
theorem tl_pick {cA : Nat → ClassId} : ∀ (us : List Un) (j : Nat) (U : Un), us[j]? = some U → (tl cA us).Perm (uc cA U ++ tl cA (us.eraseIdx j)) := by
  intro us
  induction us with
  | nil => intro j U h; cases h
  | cons V us ih =>
    intro j U h
    cases j with
    | zero => cases h; exact List.Perm.refl _
    | succ j =>
      have h2 : us[j]? = some U := h
      have p := (ih j U h2).append_left (uc cA V)
      exact p.trans (List.perm_append_comm_assoc _ _ _)
theorem kp_pick {D : va_G} {cl : List vw_C} {cA : Nat → ClassId} {X : va_W} {us : List Un} {j : Nat} {U : Un} (h : us[j]? = some U) : (X ++ tl cA us).Perm ((X ++ uc cA U) ++ tl cA (us.eraseIdx j)) := by
  rw [List.append_assoc]
  exact (tl_pick us j U h).append_left X
theorem kp_put {cA : Nat → ClassId} {X : va_W} {us : List Un} {j : Nat} {V : Un} (h : j < us.length) : ((X ++ uc cA V) ++ tl cA (us.eraseIdx j)).Perm (X ++ tl cA (us.set j V)) := by
  have p := (tl_pick (cA := cA) (us.set j V) j V (List.getElem?_set_self h)).append_left X
  rw [List.eraseIdx_set_eq, ← List.append_assoc] at p
  exact p.symm
theorem tl_push {cA : Nat → ClassId} (us : List Un) (V : Un) : tl cA (us ++ [V]) = tl cA us ++ uc cA V := by
  induction us with
  | nil => exact (List.append_nil _)
  | cons U us ih => show uc cA U ++ tl cA (us ++ [V]) = (uc cA U ++ tl cA us) ++ uc cA V; rw [ih, List.append_assoc]
theorem kp_push {cA : Nat → ClassId} {X : va_W} {us : List Un} {V : Un} : ((X ++ uc cA V) ++ tl cA us).Perm (X ++ tl cA (us ++ [V])) := by
  rw [tl_push, List.append_assoc]
  exact List.perm_append_comm.append_left X
theorem us_at {us : List Un} {j : Nat} (h : j < us.length) : ∃ U, us[j]? = some U := ⟨_, List.getElem?_eq_getElem h⟩
theorem us_lt {us : List Un} {j : Nat} {U : Un} (h : us[j]? = some U) : j < us.length := by
  rcases Nat.lt_or_ge j us.length with q | q
  · exact q
  · rw [List.getElem?_eq_none q] at h; cases h
theorem has_at {n : Nat} {x : Int32} (hn : n < 2 ^ 31) (h : ¬ sp_has n x = 0) : ∃ k : Nat, k < n ∧ x = nI k := by
  rcases eq_has2 (n := n) (x := x) hn with ⟨c, -⟩ | q
  · exact absurd c h
  · exact q
theorem isnum_at {x : Int32} (h : ¬ sp_isnum x = 0) : ∃ k : Nat, k ≤ 65535 ∧ x = nI k := by
  unfold sp_isnum at h
  by_cases c : x < 0
  · rw [if_pos c] at h; exact absurd rfl h
  · rw [if_neg c] at h
    by_cases d : 65535 < x
    · rw [if_pos d] at h; exact absurd rfl h
    · obtain ⟨k, hk, rfl⟩ := nI_of c
      refine ⟨k, ?_, rfl⟩
      rcases Nat.lt_or_ge 65535 k with q | q
      · exact absurd ((nI_ltI (a := 65535) (b := k) (by omega) hk).mpr q) d
      · exact q
theorem isnum_in {k : Nat} (h : k ≤ 65535) : ¬ sp_isnum (nI k) = 0 := by
  unfold sp_isnum
  rw [if_neg (nI_pos (by omega)), if_neg (show ¬ (65535 : Int32) < nI k from nI_nlt (a := 65535) (b := k) h (by omega))]
  decide
