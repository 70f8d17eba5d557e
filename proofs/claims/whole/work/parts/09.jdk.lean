set_option maxHeartbeats 4000000 in
set_option maxRecDepth 100000 in
theorem c_bitCount (l : Launch) (dC : Nat → ClassId) (dI : Nat → Nat → Nat) (cA : Nat → ClassId) (x : Int64)  : Met l yXJ_bitCount (kw_XJ_bitCount) ({ frames := 0, cells := 0, slots := 0, locals := 0 }) (va_Pc [.long x] (fun U => kRO dC dI cA [] U)) (vp_Si (fun r => r = sp_bc x)) 0 0 (fun _ => False) := by
  refine Met.ofW (cc := cXJ_bitCount) (maxL := 2) (ret := (some .int)) (by decide) rfl ?_
  intro p e s m args below meth c s₁ B hml hv
  obtain ⟨rfl, hP, hK, hN⟩ := hv
  have hx := B.exec
  have hb := B.bytes
  have hr := B.returns
  have hts0 := atoms_spec (ws := (kw_XJ_bitCount)) B.pre
  have hts : ∀ w ∈ TB, w.before _ s = true := fun w h => hts0 w (List.mem_cons_of_mem _ h)
  have hown : s.vm.findClass RXJ = some m.cls := findClass_of_methodNamed B.named
  have hlocks := B.notSynchronized
  have hk_0 := hts (.constantLong RXJ 314 6148914691236517205) tb_0
  have hk_1 := hts (.constantLong RXJ 316 3689348814741910323) tb_1
  have hk_2 := hts (.constantLong RXJ 318 1085102592571150095) tb_2
  have hl := lv_entry ([.long x]) (n := 2) (Nat.le_of_ble_eq_true rfl)
  rw [lg_entry_eq]
  generalize (lg_sl ([.long x]) ++ List.replicate (2 - (lg_sl ([.long x])).length) Slot.unset).toArray = ls at hl ⊢
  have hl : lv_has ls 2 [(0, .long x)] := hl
  refine lv_lload_n hx hb dXJ_bitCount_0 rfl (lv_at hl 0 rfl) ?_
  refine lv_lload_n hx hb dXJ_bitCount_1 rfl (lv_at hl 0 rfl) ?_
  refine lv_iconst (v := 1) hx hb dXJ_bitCount_2 (by decide) ?_
  refine lv_lushr (v := jv_lushr x (1 : Int32)) hx hb dXJ_bitCount_3 rfl ?_
  refine lv_ldc2 (v := 6148914691236517205) hx hb hown hk_0 dXJ_bitCount_4 ?_
  refine lv_land hx hb dXJ_bitCount_7 ?_
  refine lv_lsub hx hb dXJ_bitCount_8 ?_
  refine lv_lstore_n (lv' := [(0, .long (x - ((jv_lushr x (1 : Int32)) &&& 6148914691236517205)))]) hx hb dXJ_bitCount_9 rfl hl (by decide) rfl (fun ls hl => ?_)
  have el_1 : x - ((jv_lushr x (1 : Int32)) &&& 6148914691236517205) = sp_b1 x := rfl
  rw [el_1] at hl
  refine lv_lload_n hx hb dXJ_bitCount_10 rfl (lv_at hl 0 rfl) ?_
  refine lv_ldc2 (v := 3689348814741910323) hx hb hown hk_1 dXJ_bitCount_11 ?_
  refine lv_land hx hb dXJ_bitCount_14 ?_
  refine lv_lload_n hx hb dXJ_bitCount_15 rfl (lv_at hl 0 rfl) ?_
  refine lv_iconst (v := 2) hx hb dXJ_bitCount_16 (by decide) ?_
  refine lv_lushr (v := jv_lushr (sp_b1 x) (2 : Int32)) hx hb dXJ_bitCount_17 rfl ?_
  refine lv_ldc2 (v := 3689348814741910323) hx hb hown hk_1 dXJ_bitCount_18 ?_
  refine lv_land hx hb dXJ_bitCount_21 ?_
  refine lv_ladd hx hb dXJ_bitCount_22 ?_
  refine lv_lstore_n (lv' := [(0, .long (((sp_b1 x) &&& 3689348814741910323) + ((jv_lushr (sp_b1 x) (2 : Int32)) &&& 3689348814741910323)))]) hx hb dXJ_bitCount_23 rfl hl (by decide) rfl (fun ls hl => ?_)
  have el_2 : ((sp_b1 x) &&& 3689348814741910323) + ((jv_lushr (sp_b1 x) (2 : Int32)) &&& 3689348814741910323) = sp_b2 (sp_b1 x) := rfl
  rw [el_2] at hl
  refine lv_lload_n hx hb dXJ_bitCount_24 rfl (lv_at hl 0 rfl) ?_
  refine lv_lload_n hx hb dXJ_bitCount_25 rfl (lv_at hl 0 rfl) ?_
  refine lv_iconst (v := 4) hx hb dXJ_bitCount_26 (by decide) ?_
  refine lv_lushr (v := jv_lushr (sp_b2 (sp_b1 x)) (4 : Int32)) hx hb dXJ_bitCount_27 rfl ?_
  refine lv_ladd hx hb dXJ_bitCount_28 ?_
  refine lv_ldc2 (v := 1085102592571150095) hx hb hown hk_2 dXJ_bitCount_29 ?_
  refine lv_land hx hb dXJ_bitCount_32 ?_
  refine lv_lstore_n (lv' := [(0, .long (((sp_b2 (sp_b1 x)) + (jv_lushr (sp_b2 (sp_b1 x)) (4 : Int32))) &&& 1085102592571150095))]) hx hb dXJ_bitCount_33 rfl hl (by decide) rfl (fun ls hl => ?_)
  have el_3 : ((sp_b2 (sp_b1 x)) + (jv_lushr (sp_b2 (sp_b1 x)) (4 : Int32))) &&& 1085102592571150095 = sp_b3 (sp_b2 (sp_b1 x)) := rfl
  rw [el_3] at hl
  refine lv_lload_n hx hb dXJ_bitCount_34 rfl (lv_at hl 0 rfl) ?_
  refine lv_lload_n hx hb dXJ_bitCount_35 rfl (lv_at hl 0 rfl) ?_
  refine lv_bipush (v := 8) hx hb dXJ_bitCount_36 (by decide) ?_
  refine lv_lushr (v := jv_lushr (sp_b3 (sp_b2 (sp_b1 x))) (8 : Int32)) hx hb dXJ_bitCount_38 rfl ?_
  refine lv_ladd hx hb dXJ_bitCount_39 ?_
  refine lv_lstore_n (lv' := [(0, .long ((sp_b3 (sp_b2 (sp_b1 x))) + (jv_lushr (sp_b3 (sp_b2 (sp_b1 x))) (8 : Int32))))]) hx hb dXJ_bitCount_40 rfl hl (by decide) rfl (fun ls hl => ?_)
  have el_4 : (sp_b3 (sp_b2 (sp_b1 x))) + (jv_lushr (sp_b3 (sp_b2 (sp_b1 x))) (8 : Int32)) = sp_b4 (sp_b3 (sp_b2 (sp_b1 x))) := rfl
  rw [el_4] at hl
  refine lv_lload_n hx hb dXJ_bitCount_41 rfl (lv_at hl 0 rfl) ?_
  refine lv_lload_n hx hb dXJ_bitCount_42 rfl (lv_at hl 0 rfl) ?_
  refine lv_bipush (v := 16) hx hb dXJ_bitCount_43 (by decide) ?_
  refine lv_lushr (v := jv_lushr (sp_b4 (sp_b3 (sp_b2 (sp_b1 x)))) (16 : Int32)) hx hb dXJ_bitCount_45 rfl ?_
  refine lv_ladd hx hb dXJ_bitCount_46 ?_
  refine lv_lstore_n (lv' := [(0, .long ((sp_b4 (sp_b3 (sp_b2 (sp_b1 x)))) + (jv_lushr (sp_b4 (sp_b3 (sp_b2 (sp_b1 x)))) (16 : Int32))))]) hx hb dXJ_bitCount_47 rfl hl (by decide) rfl (fun ls hl => ?_)
  have el_5 : (sp_b4 (sp_b3 (sp_b2 (sp_b1 x)))) + (jv_lushr (sp_b4 (sp_b3 (sp_b2 (sp_b1 x)))) (16 : Int32)) = sp_b5 (sp_b4 (sp_b3 (sp_b2 (sp_b1 x)))) := rfl
  rw [el_5] at hl
  refine lv_lload_n hx hb dXJ_bitCount_48 rfl (lv_at hl 0 rfl) ?_
  refine lv_lload_n hx hb dXJ_bitCount_49 rfl (lv_at hl 0 rfl) ?_
  refine lv_bipush (v := 32) hx hb dXJ_bitCount_50 (by decide) ?_
  refine lv_lushr (v := jv_lushr (sp_b5 (sp_b4 (sp_b3 (sp_b2 (sp_b1 x))))) (32 : Int32)) hx hb dXJ_bitCount_52 rfl ?_
  refine lv_ladd hx hb dXJ_bitCount_53 ?_
  refine lv_lstore_n (lv' := [(0, .long ((sp_b5 (sp_b4 (sp_b3 (sp_b2 (sp_b1 x))))) + (jv_lushr (sp_b5 (sp_b4 (sp_b3 (sp_b2 (sp_b1 x))))) (32 : Int32))))]) hx hb dXJ_bitCount_54 rfl hl (by decide) rfl (fun ls hl => ?_)
  have el_6 : (sp_b5 (sp_b4 (sp_b3 (sp_b2 (sp_b1 x))))) + (jv_lushr (sp_b5 (sp_b4 (sp_b3 (sp_b2 (sp_b1 x))))) (32 : Int32)) = sp_b6 (sp_b5 (sp_b4 (sp_b3 (sp_b2 (sp_b1 x))))) := rfl
  rw [el_6] at hl
  refine lv_lload_n hx hb dXJ_bitCount_55 rfl (lv_at hl 0 rfl) ?_
  refine lv_l2i (v := (sp_b6 (sp_b5 (sp_b4 (sp_b3 (sp_b2 (sp_b1 x)))))).toInt32) hx hb dXJ_bitCount_56 rfl ?_
  refine lv_bipush (v := 127) hx hb dXJ_bitCount_57 (by decide) ?_
  refine lv_iand hx hb dXJ_bitCount_59 ?_
  exact W.iret (v := ((sp_b6 (sp_b5 (sp_b4 (sp_b3 (sp_b2 (sp_b1 x)))))).toInt32) &&& 127) hx hb hr (fun t9 ht9 hW9 => ⟨((sp_b6 (sp_b5 (sp_b4 (sp_b3 (sp_b2 (sp_b1 x)))))).toInt32) &&& 127, rfl, rfl, ht9⟩) (fun _ h => absurd h List.not_mem_nil) dXJ_bitCount_60
