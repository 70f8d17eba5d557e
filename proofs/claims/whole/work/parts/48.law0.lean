/-! THE CLAIM OUT OF ONE WALK OF THE LAW'S BODY. Your part is whole_start (and what it stands on); all else here is the same for every law, but numbers. -/
def R_law : String := "FountainRowsLaw"
def lw_P (b : Addr) (xs : List Int32) (args : Array Value) (s : State) : Prop := args = #[.ref b] ∧ s.IntsAt b xs ∧ xs.length ≤ 2560 ∧ (Jvm.Cond.and given_1 narrow_1).before args s = true
def lw_Q (_ : Array Value) (s : State) (o : Outcome) (t : State) : Prop := o = .returned (some (.int 1)) ∧ Framed s o t [] 600000 7302250
def lw_Z (below : List Frame) (a : Array Value) (s : State) : State → Prop := fun t => ∃ o, t.status = .running ∧ Ended t below o ∧ lw_Q a s o t
/-- the law's own end, with 1 on the stack, nothing written that was there before, its room as the claim has it -/
theorem lw_ret {p : Program} {l : Launch} {e : Env} {s : State} {m : MethodId} {below : List Frame} {meth : Method} {c : Code} {b : Nat} (hx : p.tables.exec = Jvm.exec) (hb : c.code = code) (hr : meth.sig.returnType = ret) (hlocks : meth.locks = false) {pc : Nat} {H : Heap} {ls : Array Slot} (hdg : decode code pc = .ok (.ireturn, 1)) : W p l e room_1 s m #[Value.ref b] below meth c H [] 600000 7302250 (lw_Z below #[Value.ref b] s) (F0 m pc ls [.int 1]) := by
  intro T hT X
  obtain ⟨fs, hret, hrun, hended, hW, hframe⟩ := X.leave (v := some (.int 1)) (hlocks := hlocks) (fun h => by rw [hr] at h; cases h)
  have hmeth' : T.vm.method? m = some meth := X.method'
  refine ⟨T.setFrames fs, ?_, .returned (some (.int 1)), hrun, hended, rfl, ⟨_, rfl⟩, hW, hframe⟩
  jvm_step X.here [X.here.top, hx, hb, hdg, hmeth', hr, ret, narrow_b1]
  (try refine ⟨rfl, ?_⟩); (try refine ⟨rfl, ?_⟩)
  first | (intro acts; rw [hret _ acts rfl rfl rfl]) | rw [hret _ _ rfl rfl rfl]
  exact Steps.refl _
/-- what holds at the law's entry: the machine, the code, the tables' words (any of lw_tbl by 'hts w (by decide +kernel)'), the script of L ints xs at the cell b, what the Statement gives of the start (any of its parts by flat_of_before) -/
def lw_At (p : Program) (s : State) (m : MethodId) (meth : Method) (c : Code) (b L : Nat) (xs : Nat → Int32) : Prop :=
  p.tables.exec = Jvm.exec ∧ c.code = code ∧ meth.sig.returnType = ret ∧ c.maxLocals = 4 ∧ s.vm.findClass R_law = some m.cls ∧ (∀ w ∈ lw_tbl, w.before #[Value.ref b] s = true) ∧ va_X b L xs s s.heap ∧ b < s.heap.size ∧ meth.locks = false ∧ (Jvm.Cond.and given_1 narrow_1).before #[Value.ref b] s = true
/-! before the law's cases -/
theorem lw_le {i L : Nat} (hi : i ≤ 2560) (hL : L ≤ 2560) (h : ¬ (Int32.ofNat L - 5) < nI i) : i + 5 ≤ L := by
  have h : ¬ (nI L - 5) < nI i := h
  rcases Nat.lt_or_ge L 5 with q | q
  · exfalso
    have h1 : nI L - 5 < 0 := (ku_neg (a := L) (b := 5) (by omega) (by omega)).mpr q
    have h2 : ¬ nI i < 0 := nI_pos (by omega)
    rw [Int32.lt_iff_toInt_lt] at h1 h2 h
    have e0 : (0 : Int32).toInt = 0 := rfl
    omega
  · have e1 : nI L - 5 = nI (L - 5) := pk_sub (a := L) (b := 5) q
    rw [e1] at h
    have h2 := mt (nI_ltI (a := L - 5) (b := i) (by omega) (by omega)).mpr h
    omega
theorem kST.to {t0 : Nat} {A B : Nat → Prop} {s U : State} {H : Heap} {locs : List Loc} (h : kST t0 A s) (hS : va_S A s.heap H locs) (hF : ∀ q, B q → A q) (hU : U.heap = H) (hW : s.vm.Alike U.vm) : kST t0 B U := by
  obtain ⟨h1, h2, h3, h4⟩ := h
  refine ⟨?_, ?_, va_AO.moved hW h3, va_AO.moved hW h4⟩
  · rw [hU]; exact va_Z.moved hW ((h1.kept hS.2.1).narrow hF)
  · rw [hU]; exact va_T.moved hW ((h2.kept hS.2.1).narrow hF)
theorem kpi_F {s : State} {H : Heap} {locs : List Loc} {dC : Nat → ClassId} {dI : Nat → Nat → Nat} {cA : Nat → ClassId} {wc : va_W} {As : List Value} {A : Nat → Prop} {t0 : Nat} (hK : va_K (dC, dI) vwCl (TY cA) s) (hN : kNW s) (hP : va_P (dC, dI) vwCl wc H) (hD : va_D A wc) (hST : kST t0 A s) (hS : va_S A s.heap H locs) (hF : ∀ q, va_A wc H.size q → A q) : PreS s H (va_Pc As (fun U => kRW dC dI cA wc H.size U ∧ kST t0 (va_A wc H.size) U)) As :=
  ⟨fun _ U g mk z => ⟨z.1, ⟨z.2.1.1, z.2.1.2.1, va_K.moved (u := U) (Vm.Alike.refl U.vm) z.2.1.2.2.1, kNW.same (u := U) rfl z.2.1.2.2.2.1, z.2.1.2.2.2.2⟩, va_Z.moved (u := U) (Vm.Alike.refl U.vm) z.2.2.1, va_T.moved (u := U) (Vm.Alike.refl U.vm) z.2.2.2.1, va_AO.moved (u := U) (Vm.Alike.refl U.vm) z.2.2.2.2.1, va_AO.moved (u := U) (Vm.Alike.refl U.vm) z.2.2.2.2.2⟩, fun U hU hW => ⟨rfl, ⟨by rw [hU], by rw [hU]; exact hP, va_K.moved hW.alike hK, hN.moved hW, hD.weaken (fun _ _ _ _ => trivial)⟩, hST.to hS hF hU hW.alike⟩⟩
theorem RelW.init : RelW (va_cpy sp_w0 (fun _ => 0) 0 0 12) rs_wt0 (fun d => ([0, 1, 50, 17, 8, 5, 3, 2, 2, 1, 1, 1, 9] : List Nat).getD d 0) := ⟨by decide +kernel, by decide +kernel⟩
/-- arrays' classes -/
theorem kA_prim {s : State} {args : Array Value} {ty : FieldType} (h : (Cond.arrayClass ty).before args s = true) : ∃ cA : ClassId, ArrOfT s cA ty ∧ s.vm.findClass ("[" ++ ty.toString) = some cA := by
  obtain ⟨cA, kA, comp, hf, hk, hkind⟩ := Cond.arrayClass_spec h
  exact ⟨cA, fun n z => ⟨fun k h => (by cases h), kA, hk, comp, hkind⟩, hf⟩
theorem kA_obj {s : State} {args : Array Value} {C : String} (h : (Cond.arrayOver (.object C)).before args s = true) : ∃ cA : ClassId, ArrOfT s cA (.object C) ∧ va_RA s cA (.object C) := by
  obtain ⟨comp, c, k, h1, h2, h3, h4, h5⟩ := Cond.arrayOver_spec h
  exact ⟨c, fun n z => ⟨fun k h => (by cases h), k, h3, comp, h4⟩, k, comp, h3, h4, h1, h5⟩
