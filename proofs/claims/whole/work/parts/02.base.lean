abbrev TY (cA : Nat → ClassId) : List (ClassId × FieldType) := [(cA 0, .int), (cA 1, .long), (cA 2, .object "FountainRows$Source"), (cA 3, .object "FountainRows$Receiver")]
def nestF : List (String × Nat × String × String × String × String) := [(RX5, 111, "FountainRows$Bytes", "length", "I", "FountainRows"), (RX2, 156, "FountainRows$Bytes", "length", "I", "FountainRows"), (RX2, 63, "FountainRows$Source", "symbolCount", "I", "FountainRows"), (RX2, 54, "FountainRows$Source", "sumCount", "I", "FountainRows"), (RX2, 110, "FountainRows$Source", "partCount", "I", "FountainRows"), (RX2, 93, "FountainRows$Source", "size", "I", "FountainRows"), (RX5, 108, "FountainRows$Source", "size", "I", "FountainRows"), (RX2, 153, "FountainRows$Source", "seed", "I", "FountainRows"), (RX5, 158, "FountainRows$Span", "values", "[J", "FountainRows"), (RX2, 107, "FountainRows$Span", "rank", "I", "FountainRows"), (RX5, 175, "FountainRows$Span", "rank", "I", "FountainRows"), (RX2, 134, "FountainRows$Peeling", "open", "J", "FountainRows"), (RX2, 121, "FountainRows$Peeling", "found", "J", "FountainRows"), (RX2, 131, "FountainRows$Peeling", "inactive", "J", "FountainRows"), (RX5, 145, "FountainRows$Receiver", "origin", "LFountainRows$Source;", "FountainRows"), (RX5, 149, "FountainRows$Receiver", "span", "LFountainRows$Span;", "FountainRows"), (RX5, 142, "FountainRows$Receiver", "numbers", "[I", "FountainRows")]
def nestM : List (String × Nat × MethodName × String) := [(RX3, 37, yX5_totalOf, "FountainRows"), (RX3, 56, yX5_nextState, "FountainRows"), (RX3, 60, yX5_hasBit, "FountainRows"), (RX2, 17, yX4_init, "FountainRows"), (RX2, 24, yX1_init, "FountainRows"), (RX4, 37, yX5_hasBit, "FountainRows"), (RX3, 85, yX5_drawnModulo, "FountainRows"), (RX1, 35, yX5_hasBit, "FountainRows"), (RX2, 137, yX5_hasBit, "FountainRows")]
def kNW (U : State) : Prop := (∀ q ∈ nestF, va_Nw (.fieldLinkNest q.1 q.2.1 q.2.2.1 q.2.2.2.1 q.2.2.2.2.1 q.2.2.2.2.2) U) ∧ (∀ q ∈ nestM, va_Nw (.methodLinkNest q.1 q.2.1 q.2.2.1 q.2.2.2) U)
theorem kNW.same {u U : State} (h : u.vm = U.vm) (hN : kNW u) : kNW U := ⟨fun q hq => va_Nw.same rfl h (hN.1 q hq), fun q hq => va_Nw.same rfl h (hN.2 q hq)⟩
theorem kNW.moved {s U : State} (hW : s.WarmedH U.vm) (hN : kNW s) : kNW U := ⟨fun q hq => va_Nw.warmF hW (hN.1 q hq), fun q hq => va_Nw.warmM hW (hN.2 q hq)⟩
/-- what a method that only reads takes as given -/
abbrev kRO (dC : Nat → ClassId) (dI : Nat → Nat → Nat) (cA : Nat → ClassId) (ws : va_W) (U : State) : Prop := va_P (dC, dI) vwCl ws U.heap ∧ va_K (dC, dI) vwCl (TY cA) U ∧ kNW U
/-- what a method that writes takes as given -/
abbrev kRW (dC : Nat → ClassId) (dI : Nat → Nat → Nat) (cA : Nat → ClassId) (ws : va_W) (sz : Nat) (U : State) : Prop := U.heap.size = sz ∧ va_P (dC, dI) vwCl ws U.heap ∧ va_K (dC, dI) vwCl (TY cA) U ∧ kNW U ∧ va_D (fun _ => True) ws
/-- what holds behind a method that writes -/
abbrev kB (dC : Nat → ClassId) (dI : Nat → Nat → Nat) (A : Nat → Prop) (ws : va_W) (t : State) : Prop := va_P (dC, dI) vwCl ws t.heap ∧ va_D A ws
def jv_ushr (x y : Int32) : Int32 := (x.toUInt32 >>> (y.toUInt32 &&& Int32.toUInt32 31)).toInt32
def jv_lushr (x : Int64) (y : Int32) : Int64 := (x.toUInt64 >>> (y.toInt64.toUInt64 &&& Int64.toUInt64 63)).toInt64
def jv_lshl (x : Int64) (y : Int32) : Int64 := x <<< (y.toInt64 &&& 63)
def jv_lshr (x : Int64) (y : Int32) : Int64 := x >>> (y.toInt64 &&& 63)
section
variable {p : Program} {l : Launch} {e : Env} {R : Room} {s : State} {m : MethodId} {args : Array Value} {below : List Frame} {meth : Method} {c : Code} {H : Heap} {locs : List Loc} {cells slots : Nat} {Q : State → Prop} {pc : Nat} {ls : Array Slot} {rest st0 : List Value} {a : Array Value}
theorem kq_csi {post : Int32 → Prop} (hr : va_Run p l e R s m args below meth c H locs cells slots 0 0 (F0 m pc ls st0) rest (vp_Si post a) (fun _ => False))
    (kk : ∀ r : Int32, post r → W p l e R s m args below meth c H locs cells slots Q (F0 m (pc + 3) ls (.int r :: rest))) : W p l e R s m args below meth c H locs cells slots Q (F0 m pc ls st0) := vp_callSi hr.run kk
theorem kq_csl {post : Int64 → Prop} (hr : va_Run p l e R s m args below meth c H locs cells slots 0 0 (F0 m pc ls st0) rest (vp_Sl post a) (fun _ => False))
    (kk : ∀ r : Int64, post r → W p l e R s m args below meth c H locs cells slots Q (F0 m (pc + 3) ls (.long r :: rest))) : W p l e R s m args below meth c H locs cells slots Q (F0 m pc ls st0) := vp_callSl hr.run kk
theorem kq_csq {post : Option Nat → Prop} (hr : va_Run p l e R s m args below meth c H locs cells slots 0 0 (F0 m pc ls st0) rest (va_Sq post a) (fun _ => False))
    (kk : ∀ r : Option Nat, post r → W p l e R s m args below meth c H locs cells slots Q (F0 m (pc + 3) ls (va_rf r :: rest))) : W p l e R s m args below meth c H locs cells slots Q (F0 m pc ls st0) := va_csq hr.run kk
theorem kt_i {x y : Int32} (h : x = y) (k : W p l e R s m args below meth c H locs cells slots Q (F0 m pc ls (.int y :: rest))) : W p l e R s m args below meth c H locs cells slots Q (F0 m pc ls (.int x :: rest)) := by rw [h]; exact k
theorem kt_l {x y : Int64} (h : x = y) (k : W p l e R s m args below meth c H locs cells slots Q (F0 m pc ls (.long y :: rest))) : W p l e R s m args below meth c H locs cells slots Q (F0 m pc ls (.long x :: rest)) := by rw [h]; exact k
theorem kt_q {x y : Option Nat} (h : x = y) (k : W p l e R s m args below meth c H locs cells slots Q (F0 m pc ls (va_rf y :: rest))) : W p l e R s m args below meth c H locs cells slots Q (F0 m pc ls (va_rf x :: rest)) := by rw [h]; exact k
theorem kv_rf (r : Option Nat) : va_rf r = .null ∨ ∃ a, va_rf r = .ref a := by
  cases r with
  | none => exact Or.inl rfl
  | some a => exact Or.inr ⟨a, rfl⟩
theorem kpv_ro {dC : Nat → ClassId} {dI : Nat → Nat → Nat} {cA : Nat → ClassId} {wc : va_W} {As : List Value} {b : Nat} {C : String} {ci q0 : Nat} {q : vw_C} {fs : List Value} (hK : va_K (dC, dI) vwCl (TY cA) s) (hN : kNW s) (hP : va_P (dC, dI) vwCl wc H) (hc : vwCl[ci]? = some q) (he : wc[q0]? = some (b, .inr (ci, fs))) (hC : q.1 = C) : PreV s H C b (va_Pc (.ref b :: As) (fun U => kRO dC dI cA wc U)) As :=
  ⟨fun _ U g mk z => ⟨z.1, z.2.1, va_K.moved (u := U) (Vm.Alike.refl U.vm) z.2.2.1, kNW.same (u := U) rfl z.2.2.2⟩, by rw [← hC]; exact va_recv hK hP hc he, fun U hU hW => ⟨rfl, by rw [hU]; exact hP, va_K.moved hW.alike hK, hN.moved hW⟩⟩
theorem kps_ro {dC : Nat → ClassId} {dI : Nat → Nat → Nat} {cA : Nat → ClassId} {wc : va_W} {As : List Value} (hK : va_K (dC, dI) vwCl (TY cA) s) (hN : kNW s) (hP : va_P (dC, dI) vwCl wc H) : PreS s H (va_Pc As (fun U => kRO dC dI cA wc U)) As :=
  ⟨fun _ U g mk z => ⟨z.1, z.2.1, va_K.moved (u := U) (Vm.Alike.refl U.vm) z.2.2.1, kNW.same (u := U) rfl z.2.2.2⟩, fun U hU hW => ⟨rfl, by rw [hU]; exact hP, va_K.moved hW.alike hK, hN.moved hW⟩⟩
theorem kpv_rw {dC : Nat → ClassId} {dI : Nat → Nat → Nat} {cA : Nat → ClassId} {wc : va_W} {As : List Value} {b : Nat} {C : String} {ci q0 : Nat} {q : vw_C} {fs : List Value} {A : Nat → Prop} (hK : va_K (dC, dI) vwCl (TY cA) s) (hN : kNW s) (hP : va_P (dC, dI) vwCl wc H) (hD : va_D A wc) (hc : vwCl[ci]? = some q) (he : wc[q0]? = some (b, .inr (ci, fs))) (hC : q.1 = C) : PreV s H C b (va_Pc (.ref b :: As) (fun U => kRW dC dI cA wc H.size U)) As :=
  ⟨fun _ U g mk z => ⟨z.1, z.2.1, z.2.2.1, va_K.moved (u := U) (Vm.Alike.refl U.vm) z.2.2.2.1, kNW.same (u := U) rfl z.2.2.2.2.1, z.2.2.2.2.2⟩, by rw [← hC]; exact va_recv hK hP hc he, fun U hU hW => ⟨rfl, by rw [hU], by rw [hU]; exact hP, va_K.moved hW.alike hK, hN.moved hW, hD.weaken (fun _ _ _ _ => trivial)⟩⟩
theorem kps_rw {dC : Nat → ClassId} {dI : Nat → Nat → Nat} {cA : Nat → ClassId} {wc : va_W} {As : List Value} {A : Nat → Prop} (hK : va_K (dC, dI) vwCl (TY cA) s) (hN : kNW s) (hP : va_P (dC, dI) vwCl wc H) (hD : va_D A wc) : PreS s H (va_Pc As (fun U => kRW dC dI cA wc H.size U)) As :=
  ⟨fun _ U g mk z => ⟨z.1, z.2.1, z.2.2.1, va_K.moved (u := U) (Vm.Alike.refl U.vm) z.2.2.2.1, kNW.same (u := U) rfl z.2.2.2.2.1, z.2.2.2.2.2⟩, fun U hU hW => ⟨rfl, by rw [hU], by rw [hU]; exact hP, va_K.moved hW.alike hK, hN.moved hW, hD.weaken (fun _ _ _ _ => trivial)⟩⟩
/-- array classes: one for each type -/
theorem kn_uniq {D : va_G} {cl : List vw_C} {tys : List (ClassId × FieldType)} {U : State} {i j : Nat} {x y : ClassId} {ty : FieldType} (hK : va_K D cl tys U) (hi : tys[i]? = some (x, ty)) (hj : tys[j]? = some (y, ty)) : x = y := by
  have h1 := (hK.2 i _ hi).2
  have h2 := (hK.2 j _ hj).2
  cases ty with
  | object C =>
    obtain ⟨_, _, _, _, _, h1⟩ := h1
    obtain ⟨_, _, _, _, _, h2⟩ := h2
    exact Option.some.inj (h1.symm.trans h2)
  | _ => exact Option.some.inj (h1.symm.trans h2)
theorem kn_newi {cc : ByteArray} {A : Nat → Prop} {H0 : Heap} {dC : Nat → ClassId} {dI : Nat → Nat → Nat} {cA : Nat → ClassId} {ws : va_W} (hexec : p.tables.exec = Jvm.exec) (hb : c.code = cc) (harr : (Cond.arrayClass .int).before args s = true) (hK : va_K (dC, dI) vwCl (TY cA) s) (hP : va_P (dC, dI) vwCl ws H) (hD : va_D A ws) (hS : va_S A H0 H locs) (hA : ∀ q, H0.size ≤ q → A q)
    {n : Int32} {N' : Nat} (hn : ¬ n < 0) (hN : n.toNatClampNeg = N') (hbytes : N' * componentBytes .int ≤ 536870912) (hcells : cells + 1 ≤ R.cells) (hslots : slots + N' ≤ R.slots) (hdg : decode cc pc = .ok (.newarray .int, 2))
    (kk : ∀ (q : Nat) (H1 : Heap), va_P (dC, dI) vwCl (ws ++ [(q, .inl (cA 0, N', .inl (fun _ => 0)))]) H1 → va_D A (ws ++ [(q, .inl (cA 0, N', .inl (fun _ => 0)))]) → va_S A H0 H1 locs →
      W p l e R s m args below meth c H1 locs (cells + 1) (slots + N') Q (F0 m (pc + 2) ls (.ref q :: rest))) : W p l e R s m args below meth c H locs cells slots Q (F0 m pc ls (.int n :: rest)) := by
  refine va_newa (atype := .int) (ty := .int) (a0 := (N', .inl (fun _ => 0))) hexec hb harr rfl hK hP hD hS hA (fun _ => rfl) hn hN hbytes hcells hslots hdg (fun q cX H1 hK1 hP1 hD1 hS1 => ?_)
  have e9 : cA 0 = cX := kn_uniq (i := 0) (j := 4) hK1 rfl rfl
  subst e9
  exact kk q H1 hP1 hD1 hS1
theorem kn_newl {cc : ByteArray} {A : Nat → Prop} {H0 : Heap} {dC : Nat → ClassId} {dI : Nat → Nat → Nat} {cA : Nat → ClassId} {ws : va_W} (hexec : p.tables.exec = Jvm.exec) (hb : c.code = cc) (harr : (Cond.arrayClass .long).before args s = true) (hK : va_K (dC, dI) vwCl (TY cA) s) (hP : va_P (dC, dI) vwCl ws H) (hD : va_D A ws) (hS : va_S A H0 H locs) (hA : ∀ q, H0.size ≤ q → A q)
    {n : Int32} {N' : Nat} (hn : ¬ n < 0) (hN : n.toNatClampNeg = N') (hbytes : N' * componentBytes .long ≤ 536870912) (hcells : cells + 1 ≤ R.cells) (hslots : slots + N' ≤ R.slots) (hdg : decode cc pc = .ok (.newarray .long, 2))
    (kk : ∀ (q : Nat) (H1 : Heap), va_P (dC, dI) vwCl (ws ++ [(q, .inl (cA 1, N', .inr (.inl (fun _ => 0))))]) H1 → va_D A (ws ++ [(q, .inl (cA 1, N', .inr (.inl (fun _ => 0))))]) → va_S A H0 H1 locs →
      W p l e R s m args below meth c H1 locs (cells + 1) (slots + N') Q (F0 m (pc + 2) ls (.ref q :: rest))) : W p l e R s m args below meth c H locs cells slots Q (F0 m pc ls (.int n :: rest)) := by
  refine va_newa (atype := .long) (ty := .long) (a0 := (N', .inr (.inl (fun _ => 0)))) hexec hb harr rfl hK hP hD hS hA (fun _ => rfl) hn hN hbytes hcells hslots hdg (fun q cX H1 hK1 hP1 hD1 hS1 => ?_)
  have e9 : cA 1 = cX := kn_uniq (i := 1) (j := 4) hK1 rfl rfl
  subst e9
  exact kk q H1 hP1 hD1 hS1
theorem k_loop1 {A1 : Type} (I : A1 → Heap → List Loc → Array Slot → Prop) (μ : A1 → Nat)
    (hs : ∀ (a1 : A1) (H : Heap) (locs : List Loc) (ls : Array Slot), I a1 H locs ls → (∀ (b1 : A1) (H' : Heap) (locs' : List Loc) (ls' : Array Slot), I b1 H' locs' ls' → μ b1 < μ a1 → W p l e R s m args below meth c H' locs' cells slots Q (F0 m pc ls' [])) → W p l e R s m args below meth c H locs cells slots Q (F0 m pc ls []))
    (a1 : A1) (h : I a1 H locs ls) : W p l e R s m args below meth c H locs cells slots Q (F0 m pc ls []) := by
  have key : ∀ (n : Nat) (a1 : A1) (H : Heap) (locs : List Loc) (ls : Array Slot), μ a1 < n → I a1 H locs ls → W p l e R s m args below meth c H locs cells slots Q (F0 m pc ls []) := by
    intro n
    induction n with
    | zero =>
      intro a1 H locs ls h
      exact absurd h (Nat.not_lt_zero _)
    | succ n ih =>
      intro a1 H locs ls hn hI
      exact hs a1 H locs ls hI (fun b1 H' locs' ls' hI' hm => ih b1 H' locs' ls' (by omega) hI')
  exact key (μ a1 + 1) a1 H locs ls (Nat.lt_succ_self _) h
theorem r_loop1 {A1 : Type} (I : A1 → Array Slot → Prop) (μ : A1 → Nat)
    (hs : ∀ (a1 : A1) (ls : Array Slot), I a1 ls → (∀ (b1 : A1) (ls' : Array Slot), I b1 ls' → μ b1 < μ a1 → W p l e R s m args below meth c H locs cells slots Q (F0 m pc ls' [])) → W p l e R s m args below meth c H locs cells slots Q (F0 m pc ls []))
    (a1 : A1) (h : I a1 ls) : W p l e R s m args below meth c H locs cells slots Q (F0 m pc ls []) := by
  have key : ∀ (n : Nat) (a1 : A1) (ls : Array Slot), μ a1 < n → I a1 ls → W p l e R s m args below meth c H locs cells slots Q (F0 m pc ls []) := by
    intro n
    induction n with
    | zero =>
      intro a1 ls h
      exact absurd h (Nat.not_lt_zero _)
    | succ n ih =>
      intro a1 ls hn hI
      exact hs a1 ls hI (fun b1 ls' hI' hm => ih b1 ls' (by omega) hI')
  exact key (μ a1 + 1) a1 ls (Nat.lt_succ_self _) h
theorem k_loop2 {A1 A2 : Type} (I : A1 → A2 → Heap → List Loc → Array Slot → Prop) (μ : A1 → A2 → Nat)
    (hs : ∀ (a1 : A1) (a2 : A2) (H : Heap) (locs : List Loc) (ls : Array Slot), I a1 a2 H locs ls → (∀ (b1 : A1) (b2 : A2) (H' : Heap) (locs' : List Loc) (ls' : Array Slot), I b1 b2 H' locs' ls' → μ b1 b2 < μ a1 a2 → W p l e R s m args below meth c H' locs' cells slots Q (F0 m pc ls' [])) → W p l e R s m args below meth c H locs cells slots Q (F0 m pc ls []))
    (a1 : A1) (a2 : A2) (h : I a1 a2 H locs ls) : W p l e R s m args below meth c H locs cells slots Q (F0 m pc ls []) := by
  have key : ∀ (n : Nat) (a1 : A1) (a2 : A2) (H : Heap) (locs : List Loc) (ls : Array Slot), μ a1 a2 < n → I a1 a2 H locs ls → W p l e R s m args below meth c H locs cells slots Q (F0 m pc ls []) := by
    intro n
    induction n with
    | zero =>
      intro a1 a2 H locs ls h
      exact absurd h (Nat.not_lt_zero _)
    | succ n ih =>
      intro a1 a2 H locs ls hn hI
      exact hs a1 a2 H locs ls hI (fun b1 b2 H' locs' ls' hI' hm => ih b1 b2 H' locs' ls' (by omega) hI')
  exact key (μ a1 a2 + 1) a1 a2 H locs ls (Nat.lt_succ_self _) h
theorem r_loop2 {A1 A2 : Type} (I : A1 → A2 → Array Slot → Prop) (μ : A1 → A2 → Nat)
    (hs : ∀ (a1 : A1) (a2 : A2) (ls : Array Slot), I a1 a2 ls → (∀ (b1 : A1) (b2 : A2) (ls' : Array Slot), I b1 b2 ls' → μ b1 b2 < μ a1 a2 → W p l e R s m args below meth c H locs cells slots Q (F0 m pc ls' [])) → W p l e R s m args below meth c H locs cells slots Q (F0 m pc ls []))
    (a1 : A1) (a2 : A2) (h : I a1 a2 ls) : W p l e R s m args below meth c H locs cells slots Q (F0 m pc ls []) := by
  have key : ∀ (n : Nat) (a1 : A1) (a2 : A2) (ls : Array Slot), μ a1 a2 < n → I a1 a2 ls → W p l e R s m args below meth c H locs cells slots Q (F0 m pc ls []) := by
    intro n
    induction n with
    | zero =>
      intro a1 a2 ls h
      exact absurd h (Nat.not_lt_zero _)
    | succ n ih =>
      intro a1 a2 ls hn hI
      exact hs a1 a2 ls hI (fun b1 b2 ls' hI' hm => ih b1 b2 ls' (by omega) hI')
  exact key (μ a1 a2 + 1) a1 a2 ls (Nat.lt_succ_self _) h
theorem k_loop3 {A1 A2 A3 : Type} (I : A1 → A2 → A3 → Heap → List Loc → Array Slot → Prop) (μ : A1 → A2 → A3 → Nat)
    (hs : ∀ (a1 : A1) (a2 : A2) (a3 : A3) (H : Heap) (locs : List Loc) (ls : Array Slot), I a1 a2 a3 H locs ls → (∀ (b1 : A1) (b2 : A2) (b3 : A3) (H' : Heap) (locs' : List Loc) (ls' : Array Slot), I b1 b2 b3 H' locs' ls' → μ b1 b2 b3 < μ a1 a2 a3 → W p l e R s m args below meth c H' locs' cells slots Q (F0 m pc ls' [])) → W p l e R s m args below meth c H locs cells slots Q (F0 m pc ls []))
    (a1 : A1) (a2 : A2) (a3 : A3) (h : I a1 a2 a3 H locs ls) : W p l e R s m args below meth c H locs cells slots Q (F0 m pc ls []) := by
  have key : ∀ (n : Nat) (a1 : A1) (a2 : A2) (a3 : A3) (H : Heap) (locs : List Loc) (ls : Array Slot), μ a1 a2 a3 < n → I a1 a2 a3 H locs ls → W p l e R s m args below meth c H locs cells slots Q (F0 m pc ls []) := by
    intro n
    induction n with
    | zero =>
      intro a1 a2 a3 H locs ls h
      exact absurd h (Nat.not_lt_zero _)
    | succ n ih =>
      intro a1 a2 a3 H locs ls hn hI
      exact hs a1 a2 a3 H locs ls hI (fun b1 b2 b3 H' locs' ls' hI' hm => ih b1 b2 b3 H' locs' ls' (by omega) hI')
  exact key (μ a1 a2 a3 + 1) a1 a2 a3 H locs ls (Nat.lt_succ_self _) h
theorem r_loop3 {A1 A2 A3 : Type} (I : A1 → A2 → A3 → Array Slot → Prop) (μ : A1 → A2 → A3 → Nat)
    (hs : ∀ (a1 : A1) (a2 : A2) (a3 : A3) (ls : Array Slot), I a1 a2 a3 ls → (∀ (b1 : A1) (b2 : A2) (b3 : A3) (ls' : Array Slot), I b1 b2 b3 ls' → μ b1 b2 b3 < μ a1 a2 a3 → W p l e R s m args below meth c H locs cells slots Q (F0 m pc ls' [])) → W p l e R s m args below meth c H locs cells slots Q (F0 m pc ls []))
    (a1 : A1) (a2 : A2) (a3 : A3) (h : I a1 a2 a3 ls) : W p l e R s m args below meth c H locs cells slots Q (F0 m pc ls []) := by
  have key : ∀ (n : Nat) (a1 : A1) (a2 : A2) (a3 : A3) (ls : Array Slot), μ a1 a2 a3 < n → I a1 a2 a3 ls → W p l e R s m args below meth c H locs cells slots Q (F0 m pc ls []) := by
    intro n
    induction n with
    | zero =>
      intro a1 a2 a3 ls h
      exact absurd h (Nat.not_lt_zero _)
    | succ n ih =>
      intro a1 a2 a3 ls hn hI
      exact hs a1 a2 a3 ls hI (fun b1 b2 b3 ls' hI' hm => ih b1 b2 b3 ls' (by omega) hI')
  exact key (μ a1 a2 a3 + 1) a1 a2 a3 ls (Nat.lt_succ_self _) h
theorem k_loop4 {A1 A2 A3 A4 : Type} (I : A1 → A2 → A3 → A4 → Heap → List Loc → Array Slot → Prop) (μ : A1 → A2 → A3 → A4 → Nat)
    (hs : ∀ (a1 : A1) (a2 : A2) (a3 : A3) (a4 : A4) (H : Heap) (locs : List Loc) (ls : Array Slot), I a1 a2 a3 a4 H locs ls → (∀ (b1 : A1) (b2 : A2) (b3 : A3) (b4 : A4) (H' : Heap) (locs' : List Loc) (ls' : Array Slot), I b1 b2 b3 b4 H' locs' ls' → μ b1 b2 b3 b4 < μ a1 a2 a3 a4 → W p l e R s m args below meth c H' locs' cells slots Q (F0 m pc ls' [])) → W p l e R s m args below meth c H locs cells slots Q (F0 m pc ls []))
    (a1 : A1) (a2 : A2) (a3 : A3) (a4 : A4) (h : I a1 a2 a3 a4 H locs ls) : W p l e R s m args below meth c H locs cells slots Q (F0 m pc ls []) := by
  have key : ∀ (n : Nat) (a1 : A1) (a2 : A2) (a3 : A3) (a4 : A4) (H : Heap) (locs : List Loc) (ls : Array Slot), μ a1 a2 a3 a4 < n → I a1 a2 a3 a4 H locs ls → W p l e R s m args below meth c H locs cells slots Q (F0 m pc ls []) := by
    intro n
    induction n with
    | zero =>
      intro a1 a2 a3 a4 H locs ls h
      exact absurd h (Nat.not_lt_zero _)
    | succ n ih =>
      intro a1 a2 a3 a4 H locs ls hn hI
      exact hs a1 a2 a3 a4 H locs ls hI (fun b1 b2 b3 b4 H' locs' ls' hI' hm => ih b1 b2 b3 b4 H' locs' ls' (by omega) hI')
  exact key (μ a1 a2 a3 a4 + 1) a1 a2 a3 a4 H locs ls (Nat.lt_succ_self _) h
theorem r_loop4 {A1 A2 A3 A4 : Type} (I : A1 → A2 → A3 → A4 → Array Slot → Prop) (μ : A1 → A2 → A3 → A4 → Nat)
    (hs : ∀ (a1 : A1) (a2 : A2) (a3 : A3) (a4 : A4) (ls : Array Slot), I a1 a2 a3 a4 ls → (∀ (b1 : A1) (b2 : A2) (b3 : A3) (b4 : A4) (ls' : Array Slot), I b1 b2 b3 b4 ls' → μ b1 b2 b3 b4 < μ a1 a2 a3 a4 → W p l e R s m args below meth c H locs cells slots Q (F0 m pc ls' [])) → W p l e R s m args below meth c H locs cells slots Q (F0 m pc ls []))
    (a1 : A1) (a2 : A2) (a3 : A3) (a4 : A4) (h : I a1 a2 a3 a4 ls) : W p l e R s m args below meth c H locs cells slots Q (F0 m pc ls []) := by
  have key : ∀ (n : Nat) (a1 : A1) (a2 : A2) (a3 : A3) (a4 : A4) (ls : Array Slot), μ a1 a2 a3 a4 < n → I a1 a2 a3 a4 ls → W p l e R s m args below meth c H locs cells slots Q (F0 m pc ls []) := by
    intro n
    induction n with
    | zero =>
      intro a1 a2 a3 a4 ls h
      exact absurd h (Nat.not_lt_zero _)
    | succ n ih =>
      intro a1 a2 a3 a4 ls hn hI
      exact hs a1 a2 a3 a4 ls hI (fun b1 b2 b3 b4 ls' hI' hm => ih b1 b2 b3 b4 ls' (by omega) hI')
  exact key (μ a1 a2 a3 a4 + 1) a1 a2 a3 a4 ls (Nat.lt_succ_self _) h
theorem k_loop5 {A1 A2 A3 A4 A5 : Type} (I : A1 → A2 → A3 → A4 → A5 → Heap → List Loc → Array Slot → Prop) (μ : A1 → A2 → A3 → A4 → A5 → Nat)
    (hs : ∀ (a1 : A1) (a2 : A2) (a3 : A3) (a4 : A4) (a5 : A5) (H : Heap) (locs : List Loc) (ls : Array Slot), I a1 a2 a3 a4 a5 H locs ls → (∀ (b1 : A1) (b2 : A2) (b3 : A3) (b4 : A4) (b5 : A5) (H' : Heap) (locs' : List Loc) (ls' : Array Slot), I b1 b2 b3 b4 b5 H' locs' ls' → μ b1 b2 b3 b4 b5 < μ a1 a2 a3 a4 a5 → W p l e R s m args below meth c H' locs' cells slots Q (F0 m pc ls' [])) → W p l e R s m args below meth c H locs cells slots Q (F0 m pc ls []))
    (a1 : A1) (a2 : A2) (a3 : A3) (a4 : A4) (a5 : A5) (h : I a1 a2 a3 a4 a5 H locs ls) : W p l e R s m args below meth c H locs cells slots Q (F0 m pc ls []) := by
  have key : ∀ (n : Nat) (a1 : A1) (a2 : A2) (a3 : A3) (a4 : A4) (a5 : A5) (H : Heap) (locs : List Loc) (ls : Array Slot), μ a1 a2 a3 a4 a5 < n → I a1 a2 a3 a4 a5 H locs ls → W p l e R s m args below meth c H locs cells slots Q (F0 m pc ls []) := by
    intro n
    induction n with
    | zero =>
      intro a1 a2 a3 a4 a5 H locs ls h
      exact absurd h (Nat.not_lt_zero _)
    | succ n ih =>
      intro a1 a2 a3 a4 a5 H locs ls hn hI
      exact hs a1 a2 a3 a4 a5 H locs ls hI (fun b1 b2 b3 b4 b5 H' locs' ls' hI' hm => ih b1 b2 b3 b4 b5 H' locs' ls' (by omega) hI')
  exact key (μ a1 a2 a3 a4 a5 + 1) a1 a2 a3 a4 a5 H locs ls (Nat.lt_succ_self _) h
theorem r_loop5 {A1 A2 A3 A4 A5 : Type} (I : A1 → A2 → A3 → A4 → A5 → Array Slot → Prop) (μ : A1 → A2 → A3 → A4 → A5 → Nat)
    (hs : ∀ (a1 : A1) (a2 : A2) (a3 : A3) (a4 : A4) (a5 : A5) (ls : Array Slot), I a1 a2 a3 a4 a5 ls → (∀ (b1 : A1) (b2 : A2) (b3 : A3) (b4 : A4) (b5 : A5) (ls' : Array Slot), I b1 b2 b3 b4 b5 ls' → μ b1 b2 b3 b4 b5 < μ a1 a2 a3 a4 a5 → W p l e R s m args below meth c H locs cells slots Q (F0 m pc ls' [])) → W p l e R s m args below meth c H locs cells slots Q (F0 m pc ls []))
    (a1 : A1) (a2 : A2) (a3 : A3) (a4 : A4) (a5 : A5) (h : I a1 a2 a3 a4 a5 ls) : W p l e R s m args below meth c H locs cells slots Q (F0 m pc ls []) := by
  have key : ∀ (n : Nat) (a1 : A1) (a2 : A2) (a3 : A3) (a4 : A4) (a5 : A5) (ls : Array Slot), μ a1 a2 a3 a4 a5 < n → I a1 a2 a3 a4 a5 ls → W p l e R s m args below meth c H locs cells slots Q (F0 m pc ls []) := by
    intro n
    induction n with
    | zero =>
      intro a1 a2 a3 a4 a5 ls h
      exact absurd h (Nat.not_lt_zero _)
    | succ n ih =>
      intro a1 a2 a3 a4 a5 ls hn hI
      exact hs a1 a2 a3 a4 a5 ls hI (fun b1 b2 b3 b4 b5 ls' hI' hm => ih b1 b2 b3 b4 b5 ls' (by omega) hI')
  exact key (μ a1 a2 a3 a4 a5 + 1) a1 a2 a3 a4 a5 ls (Nat.lt_succ_self _) h
theorem k_loop6 {A1 A2 A3 A4 A5 A6 : Type} (I : A1 → A2 → A3 → A4 → A5 → A6 → Heap → List Loc → Array Slot → Prop) (μ : A1 → A2 → A3 → A4 → A5 → A6 → Nat)
    (hs : ∀ (a1 : A1) (a2 : A2) (a3 : A3) (a4 : A4) (a5 : A5) (a6 : A6) (H : Heap) (locs : List Loc) (ls : Array Slot), I a1 a2 a3 a4 a5 a6 H locs ls → (∀ (b1 : A1) (b2 : A2) (b3 : A3) (b4 : A4) (b5 : A5) (b6 : A6) (H' : Heap) (locs' : List Loc) (ls' : Array Slot), I b1 b2 b3 b4 b5 b6 H' locs' ls' → μ b1 b2 b3 b4 b5 b6 < μ a1 a2 a3 a4 a5 a6 → W p l e R s m args below meth c H' locs' cells slots Q (F0 m pc ls' [])) → W p l e R s m args below meth c H locs cells slots Q (F0 m pc ls []))
    (a1 : A1) (a2 : A2) (a3 : A3) (a4 : A4) (a5 : A5) (a6 : A6) (h : I a1 a2 a3 a4 a5 a6 H locs ls) : W p l e R s m args below meth c H locs cells slots Q (F0 m pc ls []) := by
  have key : ∀ (n : Nat) (a1 : A1) (a2 : A2) (a3 : A3) (a4 : A4) (a5 : A5) (a6 : A6) (H : Heap) (locs : List Loc) (ls : Array Slot), μ a1 a2 a3 a4 a5 a6 < n → I a1 a2 a3 a4 a5 a6 H locs ls → W p l e R s m args below meth c H locs cells slots Q (F0 m pc ls []) := by
    intro n
    induction n with
    | zero =>
      intro a1 a2 a3 a4 a5 a6 H locs ls h
      exact absurd h (Nat.not_lt_zero _)
    | succ n ih =>
      intro a1 a2 a3 a4 a5 a6 H locs ls hn hI
      exact hs a1 a2 a3 a4 a5 a6 H locs ls hI (fun b1 b2 b3 b4 b5 b6 H' locs' ls' hI' hm => ih b1 b2 b3 b4 b5 b6 H' locs' ls' (by omega) hI')
  exact key (μ a1 a2 a3 a4 a5 a6 + 1) a1 a2 a3 a4 a5 a6 H locs ls (Nat.lt_succ_self _) h
theorem r_loop6 {A1 A2 A3 A4 A5 A6 : Type} (I : A1 → A2 → A3 → A4 → A5 → A6 → Array Slot → Prop) (μ : A1 → A2 → A3 → A4 → A5 → A6 → Nat)
    (hs : ∀ (a1 : A1) (a2 : A2) (a3 : A3) (a4 : A4) (a5 : A5) (a6 : A6) (ls : Array Slot), I a1 a2 a3 a4 a5 a6 ls → (∀ (b1 : A1) (b2 : A2) (b3 : A3) (b4 : A4) (b5 : A5) (b6 : A6) (ls' : Array Slot), I b1 b2 b3 b4 b5 b6 ls' → μ b1 b2 b3 b4 b5 b6 < μ a1 a2 a3 a4 a5 a6 → W p l e R s m args below meth c H locs cells slots Q (F0 m pc ls' [])) → W p l e R s m args below meth c H locs cells slots Q (F0 m pc ls []))
    (a1 : A1) (a2 : A2) (a3 : A3) (a4 : A4) (a5 : A5) (a6 : A6) (h : I a1 a2 a3 a4 a5 a6 ls) : W p l e R s m args below meth c H locs cells slots Q (F0 m pc ls []) := by
  have key : ∀ (n : Nat) (a1 : A1) (a2 : A2) (a3 : A3) (a4 : A4) (a5 : A5) (a6 : A6) (ls : Array Slot), μ a1 a2 a3 a4 a5 a6 < n → I a1 a2 a3 a4 a5 a6 ls → W p l e R s m args below meth c H locs cells slots Q (F0 m pc ls []) := by
    intro n
    induction n with
    | zero =>
      intro a1 a2 a3 a4 a5 a6 ls h
      exact absurd h (Nat.not_lt_zero _)
    | succ n ih =>
      intro a1 a2 a3 a4 a5 a6 ls hn hI
      exact hs a1 a2 a3 a4 a5 a6 ls hI (fun b1 b2 b3 b4 b5 b6 ls' hI' hm => ih b1 b2 b3 b4 b5 b6 ls' (by omega) hI')
  exact key (μ a1 a2 a3 a4 a5 a6 + 1) a1 a2 a3 a4 a5 a6 ls (Nat.lt_succ_self _) h
theorem k_loop7 {A1 A2 A3 A4 A5 A6 A7 : Type} (I : A1 → A2 → A3 → A4 → A5 → A6 → A7 → Heap → List Loc → Array Slot → Prop) (μ : A1 → A2 → A3 → A4 → A5 → A6 → A7 → Nat)
    (hs : ∀ (a1 : A1) (a2 : A2) (a3 : A3) (a4 : A4) (a5 : A5) (a6 : A6) (a7 : A7) (H : Heap) (locs : List Loc) (ls : Array Slot), I a1 a2 a3 a4 a5 a6 a7 H locs ls → (∀ (b1 : A1) (b2 : A2) (b3 : A3) (b4 : A4) (b5 : A5) (b6 : A6) (b7 : A7) (H' : Heap) (locs' : List Loc) (ls' : Array Slot), I b1 b2 b3 b4 b5 b6 b7 H' locs' ls' → μ b1 b2 b3 b4 b5 b6 b7 < μ a1 a2 a3 a4 a5 a6 a7 → W p l e R s m args below meth c H' locs' cells slots Q (F0 m pc ls' [])) → W p l e R s m args below meth c H locs cells slots Q (F0 m pc ls []))
    (a1 : A1) (a2 : A2) (a3 : A3) (a4 : A4) (a5 : A5) (a6 : A6) (a7 : A7) (h : I a1 a2 a3 a4 a5 a6 a7 H locs ls) : W p l e R s m args below meth c H locs cells slots Q (F0 m pc ls []) := by
  have key : ∀ (n : Nat) (a1 : A1) (a2 : A2) (a3 : A3) (a4 : A4) (a5 : A5) (a6 : A6) (a7 : A7) (H : Heap) (locs : List Loc) (ls : Array Slot), μ a1 a2 a3 a4 a5 a6 a7 < n → I a1 a2 a3 a4 a5 a6 a7 H locs ls → W p l e R s m args below meth c H locs cells slots Q (F0 m pc ls []) := by
    intro n
    induction n with
    | zero =>
      intro a1 a2 a3 a4 a5 a6 a7 H locs ls h
      exact absurd h (Nat.not_lt_zero _)
    | succ n ih =>
      intro a1 a2 a3 a4 a5 a6 a7 H locs ls hn hI
      exact hs a1 a2 a3 a4 a5 a6 a7 H locs ls hI (fun b1 b2 b3 b4 b5 b6 b7 H' locs' ls' hI' hm => ih b1 b2 b3 b4 b5 b6 b7 H' locs' ls' (by omega) hI')
  exact key (μ a1 a2 a3 a4 a5 a6 a7 + 1) a1 a2 a3 a4 a5 a6 a7 H locs ls (Nat.lt_succ_self _) h
theorem r_loop7 {A1 A2 A3 A4 A5 A6 A7 : Type} (I : A1 → A2 → A3 → A4 → A5 → A6 → A7 → Array Slot → Prop) (μ : A1 → A2 → A3 → A4 → A5 → A6 → A7 → Nat)
    (hs : ∀ (a1 : A1) (a2 : A2) (a3 : A3) (a4 : A4) (a5 : A5) (a6 : A6) (a7 : A7) (ls : Array Slot), I a1 a2 a3 a4 a5 a6 a7 ls → (∀ (b1 : A1) (b2 : A2) (b3 : A3) (b4 : A4) (b5 : A5) (b6 : A6) (b7 : A7) (ls' : Array Slot), I b1 b2 b3 b4 b5 b6 b7 ls' → μ b1 b2 b3 b4 b5 b6 b7 < μ a1 a2 a3 a4 a5 a6 a7 → W p l e R s m args below meth c H locs cells slots Q (F0 m pc ls' [])) → W p l e R s m args below meth c H locs cells slots Q (F0 m pc ls []))
    (a1 : A1) (a2 : A2) (a3 : A3) (a4 : A4) (a5 : A5) (a6 : A6) (a7 : A7) (h : I a1 a2 a3 a4 a5 a6 a7 ls) : W p l e R s m args below meth c H locs cells slots Q (F0 m pc ls []) := by
  have key : ∀ (n : Nat) (a1 : A1) (a2 : A2) (a3 : A3) (a4 : A4) (a5 : A5) (a6 : A6) (a7 : A7) (ls : Array Slot), μ a1 a2 a3 a4 a5 a6 a7 < n → I a1 a2 a3 a4 a5 a6 a7 ls → W p l e R s m args below meth c H locs cells slots Q (F0 m pc ls []) := by
    intro n
    induction n with
    | zero =>
      intro a1 a2 a3 a4 a5 a6 a7 ls h
      exact absurd h (Nat.not_lt_zero _)
    | succ n ih =>
      intro a1 a2 a3 a4 a5 a6 a7 ls hn hI
      exact hs a1 a2 a3 a4 a5 a6 a7 ls hI (fun b1 b2 b3 b4 b5 b6 b7 ls' hI' hm => ih b1 b2 b3 b4 b5 b6 b7 ls' (by omega) hI')
  exact key (μ a1 a2 a3 a4 a5 a6 a7 + 1) a1 a2 a3 a4 a5 a6 a7 ls (Nat.lt_succ_self _) h
theorem k_loop8 {A1 A2 A3 A4 A5 A6 A7 A8 : Type} (I : A1 → A2 → A3 → A4 → A5 → A6 → A7 → A8 → Heap → List Loc → Array Slot → Prop) (μ : A1 → A2 → A3 → A4 → A5 → A6 → A7 → A8 → Nat)
    (hs : ∀ (a1 : A1) (a2 : A2) (a3 : A3) (a4 : A4) (a5 : A5) (a6 : A6) (a7 : A7) (a8 : A8) (H : Heap) (locs : List Loc) (ls : Array Slot), I a1 a2 a3 a4 a5 a6 a7 a8 H locs ls → (∀ (b1 : A1) (b2 : A2) (b3 : A3) (b4 : A4) (b5 : A5) (b6 : A6) (b7 : A7) (b8 : A8) (H' : Heap) (locs' : List Loc) (ls' : Array Slot), I b1 b2 b3 b4 b5 b6 b7 b8 H' locs' ls' → μ b1 b2 b3 b4 b5 b6 b7 b8 < μ a1 a2 a3 a4 a5 a6 a7 a8 → W p l e R s m args below meth c H' locs' cells slots Q (F0 m pc ls' [])) → W p l e R s m args below meth c H locs cells slots Q (F0 m pc ls []))
    (a1 : A1) (a2 : A2) (a3 : A3) (a4 : A4) (a5 : A5) (a6 : A6) (a7 : A7) (a8 : A8) (h : I a1 a2 a3 a4 a5 a6 a7 a8 H locs ls) : W p l e R s m args below meth c H locs cells slots Q (F0 m pc ls []) := by
  have key : ∀ (n : Nat) (a1 : A1) (a2 : A2) (a3 : A3) (a4 : A4) (a5 : A5) (a6 : A6) (a7 : A7) (a8 : A8) (H : Heap) (locs : List Loc) (ls : Array Slot), μ a1 a2 a3 a4 a5 a6 a7 a8 < n → I a1 a2 a3 a4 a5 a6 a7 a8 H locs ls → W p l e R s m args below meth c H locs cells slots Q (F0 m pc ls []) := by
    intro n
    induction n with
    | zero =>
      intro a1 a2 a3 a4 a5 a6 a7 a8 H locs ls h
      exact absurd h (Nat.not_lt_zero _)
    | succ n ih =>
      intro a1 a2 a3 a4 a5 a6 a7 a8 H locs ls hn hI
      exact hs a1 a2 a3 a4 a5 a6 a7 a8 H locs ls hI (fun b1 b2 b3 b4 b5 b6 b7 b8 H' locs' ls' hI' hm => ih b1 b2 b3 b4 b5 b6 b7 b8 H' locs' ls' (by omega) hI')
  exact key (μ a1 a2 a3 a4 a5 a6 a7 a8 + 1) a1 a2 a3 a4 a5 a6 a7 a8 H locs ls (Nat.lt_succ_self _) h
theorem r_loop8 {A1 A2 A3 A4 A5 A6 A7 A8 : Type} (I : A1 → A2 → A3 → A4 → A5 → A6 → A7 → A8 → Array Slot → Prop) (μ : A1 → A2 → A3 → A4 → A5 → A6 → A7 → A8 → Nat)
    (hs : ∀ (a1 : A1) (a2 : A2) (a3 : A3) (a4 : A4) (a5 : A5) (a6 : A6) (a7 : A7) (a8 : A8) (ls : Array Slot), I a1 a2 a3 a4 a5 a6 a7 a8 ls → (∀ (b1 : A1) (b2 : A2) (b3 : A3) (b4 : A4) (b5 : A5) (b6 : A6) (b7 : A7) (b8 : A8) (ls' : Array Slot), I b1 b2 b3 b4 b5 b6 b7 b8 ls' → μ b1 b2 b3 b4 b5 b6 b7 b8 < μ a1 a2 a3 a4 a5 a6 a7 a8 → W p l e R s m args below meth c H locs cells slots Q (F0 m pc ls' [])) → W p l e R s m args below meth c H locs cells slots Q (F0 m pc ls []))
    (a1 : A1) (a2 : A2) (a3 : A3) (a4 : A4) (a5 : A5) (a6 : A6) (a7 : A7) (a8 : A8) (h : I a1 a2 a3 a4 a5 a6 a7 a8 ls) : W p l e R s m args below meth c H locs cells slots Q (F0 m pc ls []) := by
  have key : ∀ (n : Nat) (a1 : A1) (a2 : A2) (a3 : A3) (a4 : A4) (a5 : A5) (a6 : A6) (a7 : A7) (a8 : A8) (ls : Array Slot), μ a1 a2 a3 a4 a5 a6 a7 a8 < n → I a1 a2 a3 a4 a5 a6 a7 a8 ls → W p l e R s m args below meth c H locs cells slots Q (F0 m pc ls []) := by
    intro n
    induction n with
    | zero =>
      intro a1 a2 a3 a4 a5 a6 a7 a8 ls h
      exact absurd h (Nat.not_lt_zero _)
    | succ n ih =>
      intro a1 a2 a3 a4 a5 a6 a7 a8 ls hn hI
      exact hs a1 a2 a3 a4 a5 a6 a7 a8 ls hI (fun b1 b2 b3 b4 b5 b6 b7 b8 ls' hI' hm => ih b1 b2 b3 b4 b5 b6 b7 b8 ls' (by omega) hI')
  exact key (μ a1 a2 a3 a4 a5 a6 a7 a8 + 1) a1 a2 a3 a4 a5 a6 a7 a8 ls (Nat.lt_succ_self _) h
end
