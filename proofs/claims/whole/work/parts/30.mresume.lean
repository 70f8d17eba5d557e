set_option maxHeartbeats 4000000 in
set_option maxRecDepth 100000 in
theorem c_M_resume_bad (l : Launch) (dC : Nat → ClassId) (dI : Nat → Nat → Nat) (cA : Nat → ClassId) (mo : Nat) (mw : Nat) (mk : Nat) (mp : Nat) (mz : Nat) (me : Nat) (mtb : Nat) (my : Nat) (mx : Nat) (mu : Nat) (mn : Nat) (mg : Nat) (mf : Nat) (mi : Nat) (mh : Nat) (mv : Nat) (ms : Nat) (cnt : Nat) (hf : Int32) (fro : Int32) (fsz : Nat) (isz : Nat) (z : Int32) (rk : Nat) (lf : Int64) (lo : Int64) (kf : Nat → Int32) (pf : Nat → Int32) (zf : Nat → Int32) (ef : Nat → Int32) (imf : Nat → Int32) (j : Nat) (K : Nat) (P : Nat) (S : Nat) (seed : Int32) (hj4 : j < 4) (hjc : j < cnt) (hc4 : cnt ≤ 4) (hkf : kf j = nI K) (hpf : pf j = nI P) (hzf : zf j = nI S) (hef : ef j = seed) (hS8 : S ≤ 8) (hisz : isz ≤ 700) (hbad : ¬ rs_rf K P S seed isz imf = 0) : Met l yX6_resume (kw_X6_resume) ({ frames := 1, cells := 0, slots := 0, locals := 25 }) (va_Pc [.ref mo, .int (nI j)] (fun U => kRO dC dI cA [(mo, .inr (6, [.ref mw, .int (nI cnt), .ref mk, .ref mp, .ref mz, .ref me, .ref mtb, .ref my, .ref mx, .ref mu, .ref mn, .ref mg, .int hf, .int fro, .ref mf, .int (nI fsz), .ref mi, .int (nI isz), .int z, .ref mh, .ref mv, .int (nI rk), .long lf, .long lo, .ref ms])), (mk, .inl (cA 0, 4, .inl kf)), (mp, .inl (cA 0, 4, .inl pf)), (mz, .inl (cA 0, 4, .inl zf)), (me, .inl (cA 0, 4, .inl ef)), (mi, .inl (cA 0, 700, .inl imf))] U)) (vp_Si (fun r => r = rs_rf K P S seed isz imf)) 0 0 (fun _ => False) := by
  refine Met.ofW (cc := cX6_resume) (maxL := 8) (ret := (some .int)) (by decide) rfl ?_
  intro p e s m args below meth c s₁ B hml hv
  obtain ⟨rfl, hP, hK, hN⟩ := hv
  have hx := B.exec
  have hb := B.bytes
  have hr := B.returns
  have hts0 := atoms_spec (ws := (kw_X6_resume)) B.pre
  have hts : ∀ w ∈ TB, w.before _ s = true := fun w h => hts0 w (List.mem_cons_of_mem _ h)
  have hown : s.vm.findClass RX6 = some m.cls := findClass_of_methodNamed B.named
  have hlocks := B.notSynchronized
  have hk_0 := hts (.fieldLink RX6 179 "FountainRowsModel" "imageSize" "I") tb_389
  have hk_1 := hts (.fieldLink RX6 47 "FountainRowsModel" "image" "[I") tb_390
  have hk_2 := hts (.fieldLink RX6 13 "FountainRowsModel" "ks" "[I") tb_308
  have hk_3 := hts (.fieldLink RX6 16 "FountainRowsModel" "ps" "[I") tb_309
  have hk_4 := hts (.fieldLink RX6 19 "FountainRowsModel" "sizes" "[I") tb_310
  have hk_5 := hts (.fieldLink RX6 22 "FountainRowsModel" "seeds" "[I") tb_337
  have hl := lv_entry ([.ref mo, .int (nI j)]) (n := 8) (Nat.le_of_ble_eq_true rfl)
  rw [lg_entry_eq]
  generalize (lg_sl ([.ref mo, .int (nI j)]) ++ List.replicate (8 - (lg_sl ([.ref mo, .int (nI j)])).length) Slot.unset).toArray = ls at hl ⊢
  have hl : lv_has ls 8 [(0, .ref mo), (1, .int (nI j))] := hl
  refine lv_aload_n hx hb dX6_resume_0 rfl (lv_at hl 0 rfl) ?_
  refine lv_iload_n hx hb dX6_resume_1 rfl (lv_at hl 1 rfl) ?_
  have hPc := hP.sub (ws' := [(mo, .inr (6, [.ref mw, .int (nI cnt), .ref mk, .ref mp, .ref mz, .ref me, .ref mtb, .ref my, .ref mx, .ref mu, .ref mn, .ref mg, .int hf, .int fro, .ref mf, .int (nI fsz), .ref mi, .int (nI isz), .int z, .ref mh, .ref mv, .int (nI rk), .long lf, .long lo, .ref ms]))]) [0] rfl
  refine kq_csi (va_runV (As := [.int (nI j)]) (rest := []) ⟨hx, hb, hml, hown, hts⟩ (c_M_isSource l dC dI cA mo mw mk mp mz me mtb my mx mu mn mg mf mi mh mv ms cnt hf fro fsz isz z rk lf lo (nI j)) (cwV 1 hts (kg_V tb_315 tb_316 tb_317 tb_318 tb_314) rfl rfl rfl (by decide +kernel) ⟨Nat.le_of_ble_eq_true rfl, Nat.le_of_ble_eq_true rfl⟩) (kpv_ro hK hN hPc (ci := 6) (q0 := 0) rfl rfl rfl) rfl rfl hl.1 rfl (lv_room (Nat.le_of_ble_eq_true rfl)) dX6_resume_2 ⟨Nat.le_of_ble_eq_true rfl, Nat.le_of_ble_eq_true rfl⟩) (fun r_1 hr_1 => ?_)
  refine kt_i (y := sp_has cnt (nI j)) hr_1 ?_
  refine lv_if_ne (tgt := 10) hx hb dX6_resume_5 (by decide) (fun c_2 => ?_) (fun c_2 => ?_)
  · have c_2 : ¬ ((sp_has cnt (nI j)) = 0) := c_2
    refine lv_aload_n hx hb dX6_resume_10 rfl (lv_at hl 0 rfl) ?_
    refine va_get (D := (dC, dI)) (ci := 6) (v := .int (nI isz)) (C := RX6) (T := TX6) (N := 25) hx hb hts inX6 hown hK hP 0 rfl rfl 17 (by decide) hk_0 (fun _ h9 => h9) rfl dX6_resume_11 ?_
    refine lv_bipush (v := 11) hx hb dX6_resume_14 (by decide) ?_
    refine lv_icmp_ge (tgt := 22) hx hb dX6_resume_16 (by decide) (fun c_3 => ?_) (fun c_3 => ?_)
    · have c_3 : 11 ≤ (nI isz) := c_3
      have h11 : 11 ≤ isz := (ku_le (a := 11) (b := isz) (by omega) (by omega)).mp c_3
      have r1 := c_3
      refine lv_aload_n hx hb dX6_resume_22 rfl (lv_at hl 0 rfl) ?_
      refine va_get (D := (dC, dI)) (ci := 6) (v := .ref mi) (C := RX6) (T := TX6) (N := 25) hx hb hts inX6 hown hK hP 0 rfl rfl 16 (by decide) hk_1 (fun _ h9 => h9) rfl dX6_resume_23 ?_
      refine lv_iconst (v := 0) hx hb dX6_resume_26 (by decide) ?_
      refine va_iald (D := (dC, dI)) hx hb hK hP 5 0 rfl rfl (by unfold vp_in; decide) dX6_resume_27 ?_
      refine lv_aload_n hx hb dX6_resume_28 rfl (lv_at hl 0 rfl) ?_
      refine va_get (D := (dC, dI)) (ci := 6) (v := .ref mk) (C := RX6) (T := TX6) (N := 25) hx hb hts inX6 hown hK hP 0 rfl rfl 2 (by decide) hk_2 (fun _ h9 => h9) rfl dX6_resume_29 ?_
      refine lv_iload_n hx hb dX6_resume_32 rfl (lv_at hl 1 rfl) ?_
      refine va_iald (D := (dC, dI)) hx hb hK hP 1 0 rfl rfl (vp_in_nI hj4 (by omega)) dX6_resume_33 ?_
      refine kt_i (congrArg kf (nI_clamp (by omega : j < 2 ^ 31))) ?_
      refine kt_i (y := nI K) hkf ?_
      refine lv_icmp_ne (tgt := 83) hx hb dX6_resume_34 (by decide) (fun c_4 => ?_) (fun c_4 => ?_)
      · have c_4 : ¬ ((imf 0) = (nI K)) := c_4
        refine lv_bipush (v := (-12)) hx hb dX6_resume_83 (by decide) ?_
        exact W.iret (v := (-12)) hx hb hr (fun t9 ht9 hW9 => ⟨(-12), rfl, (by unfold rs_rf; rw [if_pos c_3, if_neg c_4] <;> rfl), ht9⟩) (fun _ h => absurd h List.not_mem_nil) dX6_resume_85
      · have c_4 : (imf 0) = (nI K) := c_4
        have r2 := c_4
        refine lv_aload_n hx hb dX6_resume_37 rfl (lv_at hl 0 rfl) ?_
        refine va_get (D := (dC, dI)) (ci := 6) (v := .ref mi) (C := RX6) (T := TX6) (N := 25) hx hb hts inX6 hown hK hP 0 rfl rfl 16 (by decide) hk_1 (fun _ h9 => h9) rfl dX6_resume_38 ?_
        refine lv_iconst (v := 1) hx hb dX6_resume_41 (by decide) ?_
        refine va_iald (D := (dC, dI)) hx hb hK hP 5 0 rfl rfl (by unfold vp_in; decide) dX6_resume_42 ?_
        refine lv_aload_n hx hb dX6_resume_43 rfl (lv_at hl 0 rfl) ?_
        refine va_get (D := (dC, dI)) (ci := 6) (v := .ref mp) (C := RX6) (T := TX6) (N := 25) hx hb hts inX6 hown hK hP 0 rfl rfl 3 (by decide) hk_3 (fun _ h9 => h9) rfl dX6_resume_44 ?_
        refine lv_iload_n hx hb dX6_resume_47 rfl (lv_at hl 1 rfl) ?_
        refine va_iald (D := (dC, dI)) hx hb hK hP 2 0 rfl rfl (vp_in_nI hj4 (by omega)) dX6_resume_48 ?_
        refine kt_i (congrArg pf (nI_clamp (by omega : j < 2 ^ 31))) ?_
        refine kt_i (y := nI P) hpf ?_
        refine lv_icmp_ne (tgt := 83) hx hb dX6_resume_49 (by decide) (fun c_5 => ?_) (fun c_5 => ?_)
        · have c_5 : ¬ ((imf 1) = (nI P)) := c_5
          refine lv_bipush (v := (-12)) hx hb dX6_resume_83 (by decide) ?_
          exact W.iret (v := (-12)) hx hb hr (fun t9 ht9 hW9 => ⟨(-12), rfl, (by unfold rs_rf; rw [if_pos c_3, if_pos c_4, if_neg c_5] <;> rfl), ht9⟩) (fun _ h => absurd h List.not_mem_nil) dX6_resume_85
        · have c_5 : (imf 1) = (nI P) := c_5
          have r3 := c_5
          refine lv_aload_n hx hb dX6_resume_52 rfl (lv_at hl 0 rfl) ?_
          refine va_get (D := (dC, dI)) (ci := 6) (v := .ref mi) (C := RX6) (T := TX6) (N := 25) hx hb hts inX6 hown hK hP 0 rfl rfl 16 (by decide) hk_1 (fun _ h9 => h9) rfl dX6_resume_53 ?_
          refine lv_iconst (v := 2) hx hb dX6_resume_56 (by decide) ?_
          refine va_iald (D := (dC, dI)) hx hb hK hP 5 0 rfl rfl (by unfold vp_in; decide) dX6_resume_57 ?_
          refine lv_aload_n hx hb dX6_resume_58 rfl (lv_at hl 0 rfl) ?_
          refine va_get (D := (dC, dI)) (ci := 6) (v := .ref mz) (C := RX6) (T := TX6) (N := 25) hx hb hts inX6 hown hK hP 0 rfl rfl 4 (by decide) hk_4 (fun _ h9 => h9) rfl dX6_resume_59 ?_
          refine lv_iload_n hx hb dX6_resume_62 rfl (lv_at hl 1 rfl) ?_
          refine va_iald (D := (dC, dI)) hx hb hK hP 3 0 rfl rfl (vp_in_nI hj4 (by omega)) dX6_resume_63 ?_
          refine kt_i (congrArg zf (nI_clamp (by omega : j < 2 ^ 31))) ?_
          refine kt_i (y := nI S) hzf ?_
          refine lv_icmp_ne (tgt := 83) hx hb dX6_resume_64 (by decide) (fun c_6 => ?_) (fun c_6 => ?_)
          · have c_6 : ¬ ((imf 2) = (nI S)) := c_6
            refine lv_bipush (v := (-12)) hx hb dX6_resume_83 (by decide) ?_
            exact W.iret (v := (-12)) hx hb hr (fun t9 ht9 hW9 => ⟨(-12), rfl, (by unfold rs_rf; rw [if_pos c_3, if_pos c_4, if_pos c_5, if_neg c_6] <;> rfl), ht9⟩) (fun _ h => absurd h List.not_mem_nil) dX6_resume_85
          · have c_6 : (imf 2) = (nI S) := c_6
            have r4 := c_6
            refine lv_aload_n hx hb dX6_resume_67 rfl (lv_at hl 0 rfl) ?_
            refine lv_iconst (v := 3) hx hb dX6_resume_68 (by decide) ?_
            refine lv_iconst (v := 4) hx hb dX6_resume_69 (by decide) ?_
            have hPc := hP.sub (ws' := [(mo, .inr (6, [.ref mw, .int (nI cnt), .ref mk, .ref mp, .ref mz, .ref me, .ref mtb, .ref my, .ref mx, .ref mu, .ref mn, .ref mg, .int hf, .int fro, .ref mf, .int (nI fsz), .ref mi, .int (nI isz), .int z, .ref mh, .ref mv, .int (nI rk), .long lf, .long lo, .ref ms])), (mi, .inl (cA 0, 700, .inl imf))]) [0, 5] rfl
            refine kq_csl (va_runV (As := [.int (nI 3), .int (nI 4)]) (rest := []) ⟨hx, hb, hml, hown, hts⟩ (c_M_number l dC dI cA mo mw mk mp mz me mtb my mx mu mn mg mf mi mh mv ms cnt hf fro fsz isz z rk lf lo imf 3 4 (by decide)) (cwV 2 hts (kg_V tb_440 tb_441 tb_442 tb_318 tb_439) rfl rfl rfl (by decide +kernel) ⟨Nat.le_of_ble_eq_true rfl, Nat.le_of_ble_eq_true rfl⟩) (kpv_ro hK hN hPc (ci := 6) (q0 := 0) rfl rfl rfl) rfl rfl hl.1 rfl (lv_room (Nat.le_of_ble_eq_true rfl)) dX6_resume_70 ⟨Nat.le_of_ble_eq_true rfl, Nat.le_of_ble_eq_true rfl⟩) (fun r_7 hr_7 => ?_)
            refine kt_l (y := rs_num imf 3 4) hr_7 ?_
            refine lv_l2i (v := (rs_num imf 3 4).toInt32) hx hb dX6_resume_73 rfl ?_
            refine lv_aload_n hx hb dX6_resume_74 rfl (lv_at hl 0 rfl) ?_
            refine va_get (D := (dC, dI)) (ci := 6) (v := .ref me) (C := RX6) (T := TX6) (N := 25) hx hb hts inX6 hown hK hP 0 rfl rfl 5 (by decide) hk_5 (fun _ h9 => h9) rfl dX6_resume_75 ?_
            refine lv_iload_n hx hb dX6_resume_78 rfl (lv_at hl 1 rfl) ?_
            refine va_iald (D := (dC, dI)) hx hb hK hP 4 0 rfl rfl (vp_in_nI hj4 (by omega)) dX6_resume_79 ?_
            refine kt_i (congrArg ef (nI_clamp (by omega : j < 2 ^ 31))) ?_
            refine kt_i (y := seed) hef ?_
            refine lv_icmp_eq (tgt := 86) hx hb dX6_resume_80 (by decide) (fun c_8 => ?_) (fun c_8 => ?_)
            · have c_8 : ((rs_num imf 3 4).toInt32) = seed := c_8
              have r5 := c_8
              refine lv_aload_n hx hb dX6_resume_86 rfl (lv_at hl 0 rfl) ?_
              refine lv_bipush (v := 7) hx hb dX6_resume_87 (by decide) ?_
              refine lv_iconst (v := 2) hx hb dX6_resume_89 (by decide) ?_
              have hPc := hP.sub (ws' := [(mo, .inr (6, [.ref mw, .int (nI cnt), .ref mk, .ref mp, .ref mz, .ref me, .ref mtb, .ref my, .ref mx, .ref mu, .ref mn, .ref mg, .int hf, .int fro, .ref mf, .int (nI fsz), .ref mi, .int (nI isz), .int z, .ref mh, .ref mv, .int (nI rk), .long lf, .long lo, .ref ms])), (mi, .inl (cA 0, 700, .inl imf))]) [0, 5] rfl
              refine kq_csl (va_runV (As := [.int (nI 7), .int (nI 2)]) (rest := []) ⟨hx, hb, hml, hown, hts⟩ (c_M_number l dC dI cA mo mw mk mp mz me mtb my mx mu mn mg mf mi mh mv ms cnt hf fro fsz isz z rk lf lo imf 7 2 (by decide)) (cwV 2 hts (kg_V tb_440 tb_441 tb_442 tb_318 tb_439) rfl rfl rfl (by decide +kernel) ⟨Nat.le_of_ble_eq_true rfl, Nat.le_of_ble_eq_true rfl⟩) (kpv_ro hK hN hPc (ci := 6) (q0 := 0) rfl rfl rfl) rfl rfl hl.1 rfl (lv_room (Nat.le_of_ble_eq_true rfl)) dX6_resume_90 ⟨Nat.le_of_ble_eq_true rfl, Nat.le_of_ble_eq_true rfl⟩) (fun r_9 hr_9 => ?_)
              refine kt_l (y := rs_num imf 7 2) hr_9 ?_
              refine lv_l2i (v := (rs_num imf 7 2).toInt32) hx hb dX6_resume_93 rfl ?_
              refine lv_istore_n (lv' := [(2, .int ((rs_num imf 7 2).toInt32)), (0, .ref mo), (1, .int (nI j))]) hx hb dX6_resume_94 rfl hl (by decide) rfl (fun ls hl => ?_)
              refine lv_iconst (v := 2) hx hb dX6_resume_95 (by decide) ?_
              refine lv_aload_n hx hb dX6_resume_96 rfl (lv_at hl 1 rfl) ?_
              refine va_get (D := (dC, dI)) (ci := 6) (v := .ref mz) (C := RX6) (T := TX6) (N := 25) hx hb hts inX6 hown hK hP 0 rfl rfl 4 (by decide) hk_4 (fun _ h9 => h9) rfl dX6_resume_97 ?_
              refine lv_iload_n hx hb dX6_resume_100 rfl (lv_at hl 2 rfl) ?_
              refine va_iald (D := (dC, dI)) hx hb hK hP 3 0 rfl rfl (vp_in_nI hj4 (by omega)) dX6_resume_101 ?_
              refine kt_i (congrArg zf (nI_clamp (by omega : j < 2 ^ 31))) ?_
              refine kt_i (y := nI S) hzf ?_
              refine lv_iadd hx hb dX6_resume_102 ?_
              refine kt_i (y := nI (2 + S)) (nI_add 2 S) ?_
              refine lv_istore_n (lv' := [(3, .int (nI (2 + S))), (2, .int ((rs_num imf 7 2).toInt32)), (0, .ref mo), (1, .int (nI j))]) hx hb dX6_resume_103 rfl hl (by decide) rfl (fun ls hl => ?_)
              refine lv_aload_n hx hb dX6_resume_104 rfl (lv_at hl 2 rfl) ?_
              refine va_get (D := (dC, dI)) (ci := 6) (v := .int (nI isz)) (C := RX6) (T := TX6) (N := 25) hx hb hts inX6 hown hK hP 0 rfl rfl 17 (by decide) hk_0 (fun _ h9 => h9) rfl dX6_resume_105 ?_
              refine lv_bipush (v := 11) hx hb dX6_resume_108 (by decide) ?_
              refine lv_iload_n hx hb dX6_resume_110 rfl (lv_at hl 1 rfl) ?_
              refine lv_iload_n hx hb dX6_resume_111 rfl (lv_at hl 0 rfl) ?_
              refine lv_imul hx hb dX6_resume_112 ?_
              refine lv_iadd hx hb dX6_resume_113 ?_
              refine lv_icmp_eq (tgt := 120) hx hb dX6_resume_114 (by decide) (fun c_10 => ?_) (fun c_10 => ?_)
              · have c_10 : (nI isz) = (11 + (((rs_num imf 7 2).toInt32) * (nI (2 + S)))) := c_10
                have r6 := c_10
                refine lv_aload_n hx hb dX6_resume_120 rfl (lv_at hl 2 rfl) ?_
                refine lv_aload_n hx hb dX6_resume_121 rfl (lv_at hl 2 rfl) ?_
                refine va_get (D := (dC, dI)) (ci := 6) (v := .int (nI isz)) (C := RX6) (T := TX6) (N := 25) hx hb hts inX6 hown hK hP 0 rfl rfl 17 (by decide) hk_0 (fun _ h9 => h9) rfl dX6_resume_122 ?_
                refine lv_iconst (v := 2) hx hb dX6_resume_125 (by decide) ?_
                refine lv_isub hx hb dX6_resume_126 ?_
                refine kt_i (y := nI (isz - 2)) (pk_sub (a := isz) (b := 2) (by omega)) ?_
                refine lv_iconst (v := 2) hx hb dX6_resume_127 (by decide) ?_
                have hPc := hP.sub (ws' := [(mo, .inr (6, [.ref mw, .int (nI cnt), .ref mk, .ref mp, .ref mz, .ref me, .ref mtb, .ref my, .ref mx, .ref mu, .ref mn, .ref mg, .int hf, .int fro, .ref mf, .int (nI fsz), .ref mi, .int (nI isz), .int z, .ref mh, .ref mv, .int (nI rk), .long lf, .long lo, .ref ms])), (mi, .inl (cA 0, 700, .inl imf))]) [0, 5] rfl
                refine kq_csl (va_runV (As := [.int (nI (isz - 2)), .int (nI 2)]) (rest := []) ⟨hx, hb, hml, hown, hts⟩ (c_M_number l dC dI cA mo mw mk mp mz me mtb my mx mu mn mg mf mi mh mv ms cnt hf fro fsz isz z rk lf lo imf (isz - 2) 2 (by omega)) (cwV 2 hts (kg_V tb_440 tb_441 tb_442 tb_318 tb_439) rfl rfl rfl (by decide +kernel) ⟨Nat.le_of_ble_eq_true rfl, Nat.le_of_ble_eq_true rfl⟩) (kpv_ro hK hN hPc (ci := 6) (q0 := 0) rfl rfl rfl) rfl rfl hl.1 rfl (lv_room (Nat.le_of_ble_eq_true rfl)) dX6_resume_128 ⟨Nat.le_of_ble_eq_true rfl, Nat.le_of_ble_eq_true rfl⟩) (fun r_11 hr_11 => ?_)
                refine kt_l (y := rs_num imf (isz - 2) 2) hr_11 ?_
                refine lv_aload_n hx hb dX6_resume_131 rfl (lv_at hl 2 rfl) ?_
                refine lv_aload_n hx hb dX6_resume_132 rfl (lv_at hl 2 rfl) ?_
                refine va_get (D := (dC, dI)) (ci := 6) (v := .ref mi) (C := RX6) (T := TX6) (N := 25) hx hb hts inX6 hown hK hP 0 rfl rfl 16 (by decide) hk_1 (fun _ h9 => h9) rfl dX6_resume_133 ?_
                refine lv_aload_n hx hb dX6_resume_136 rfl (lv_at hl 2 rfl) ?_
                refine va_get (D := (dC, dI)) (ci := 6) (v := .int (nI isz)) (C := RX6) (T := TX6) (N := 25) hx hb hts inX6 hown hK hP 0 rfl rfl 17 (by decide) hk_0 (fun _ h9 => h9) rfl dX6_resume_137 ?_
                refine lv_iconst (v := 2) hx hb dX6_resume_140 (by decide) ?_
                refine lv_isub hx hb dX6_resume_141 ?_
                refine kt_i (y := nI (isz - 2)) (pk_sub (a := isz) (b := 2) (by omega)) ?_
                have hPc := hP.sub (ws' := [(mo, .inr (6, [.ref mw, .int (nI cnt), .ref mk, .ref mp, .ref mz, .ref me, .ref mtb, .ref my, .ref mx, .ref mu, .ref mn, .ref mg, .int hf, .int fro, .ref mf, .int (nI fsz), .ref mi, .int (nI isz), .int z, .ref mh, .ref mv, .int (nI rk), .long lf, .long lo, .ref ms])), (mi, .inl (cA 0, 700, .inl imf))]) [0, 5] rfl
                refine kq_csi (va_runV (As := [.ref mi, .int (nI (isz - 2))]) (rest := [.long (rs_num imf (isz - 2) 2)]) ⟨hx, hb, hml, hown, hts⟩ (c_M_sum l dC dI cA mo mw mk mp mz me mtb my mx mu mn mg mf mi mh mv ms cnt hf fro fsz isz z rk lf lo mi 700 imf (isz - 2) (by omega) (by decide)) (cwV 2 hts (kg_V tb_362 tb_363 tb_364 tb_318 tb_361) rfl rfl rfl (by decide +kernel) ⟨Nat.le_of_ble_eq_true rfl, Nat.le_of_ble_eq_true rfl⟩) (kpv_ro hK hN hPc (ci := 6) (q0 := 0) rfl rfl rfl) rfl rfl hl.1 rfl (lv_room (Nat.le_of_ble_eq_true rfl)) dX6_resume_142 ⟨Nat.le_of_ble_eq_true rfl, Nat.le_of_ble_eq_true rfl⟩) (fun r_12 hr_12 => ?_)
                refine kt_i (y := rs_crc imf (isz - 2)) hr_12 ?_
                refine lv_i2l (v := (rs_crc imf (isz - 2)).toInt64) hx hb dX6_resume_145 rfl ?_
                refine W.lcmp hx hb dX6_resume_146 ?_
                refine lv_if_eq (tgt := 153) hx hb dX6_resume_147 (by decide) (fun c_13 => ?_) (fun c_13 => ?_)
                · have c_13 : (lg_cmp (rs_num imf (isz - 2) 2) ((rs_crc imf (isz - 2)).toInt64)) = 0 := c_13
                  exact absurd (by unfold rs_rf; rw [if_pos r1, if_pos r2, if_pos r3, if_pos r4, if_pos r5, if_pos r6, if_pos c_13]) hbad
                · have c_13 : ¬ ((lg_cmp (rs_num imf (isz - 2) 2) ((rs_crc imf (isz - 2)).toInt64)) = 0) := c_13
                  refine lv_bipush (v := (-14)) hx hb dX6_resume_150 (by decide) ?_
                  exact W.iret (v := (-14)) hx hb hr (fun t9 ht9 hW9 => ⟨(-14), rfl, (by unfold rs_rf; rw [if_pos c_3, if_pos c_4, if_pos c_5, if_pos c_6, if_pos c_8, if_pos c_10, if_neg c_13] <;> rfl), ht9⟩) (fun _ h => absurd h List.not_mem_nil) dX6_resume_152
              · have c_10 : ¬ ((nI isz) = (11 + (((rs_num imf 7 2).toInt32) * (nI (2 + S))))) := c_10
                refine lv_bipush (v := (-13)) hx hb dX6_resume_117 (by decide) ?_
                exact W.iret (v := (-13)) hx hb hr (fun t9 ht9 hW9 => ⟨(-13), rfl, (by unfold rs_rf; rw [if_pos c_3, if_pos c_4, if_pos c_5, if_pos c_6, if_pos c_8, if_neg c_10] <;> rfl), ht9⟩) (fun _ h => absurd h List.not_mem_nil) dX6_resume_119
            · have c_8 : ¬ (((rs_num imf 3 4).toInt32) = seed) := c_8
              refine lv_bipush (v := (-12)) hx hb dX6_resume_83 (by decide) ?_
              exact W.iret (v := (-12)) hx hb hr (fun t9 ht9 hW9 => ⟨(-12), rfl, (by unfold rs_rf; rw [if_pos c_3, if_pos c_4, if_pos c_5, if_pos c_6, if_neg c_8] <;> rfl), ht9⟩) (fun _ h => absurd h List.not_mem_nil) dX6_resume_85
    · have c_3 : ¬ (11 ≤ (nI isz)) := c_3
      refine lv_bipush (v := (-11)) hx hb dX6_resume_19 (by decide) ?_
      exact W.iret (v := (-11)) hx hb hr (fun t9 ht9 hW9 => ⟨(-11), rfl, (by unfold rs_rf; rw [if_neg c_3] <;> rfl), ht9⟩) (fun _ h => absurd h List.not_mem_nil) dX6_resume_21
  · have c_2 : (sp_has cnt (nI j)) = 0 := c_2
    exact absurd c_2 (sp_has_nI hjc (by omega))
set_option maxHeartbeats 4000000 in
set_option maxRecDepth 100000 in
theorem c_M_resume_at (l : Launch) (dC : Nat → ClassId) (dI : Nat → Nat → Nat) (cA : Nat → ClassId) (sz : Nat) (mo : Nat) (mw : Nat) (mk : Nat) (mp : Nat) (mz : Nat) (me : Nat) (mtb : Nat) (my : Nat) (mx : Nat) (mu : Nat) (mn : Nat) (mg : Nat) (mf : Nat) (mi : Nat) (mh : Nat) (mv : Nat) (ms : Nat) (cnt : Nat) (hf : Int32) (fro : Int32) (fsz : Nat) (isz : Nat) (z : Int32) (rk : Nat) (lf : Int64) (lo : Int64) (kf : Nat → Int32) (pf : Nat → Int32) (zf : Nat → Int32) (ef : Nat → Int32) (tbf : Nat → Int32) (xsf : Nat → Int32) (ouf : Nat → Int64) (tkf : Nat → Int32) (imf : Nat → Int32) (hd : Nat → Int64) (vl : Nat → Int64) (j : Nat) (K : Nat) (P : Nat) (S : Nat) (seed : Int32) (wN : Nat → Nat) (n : Nat) (hj4 : j < 4) (hjc : j < cnt) (hc4 : cnt ≤ 4) (hkf : kf j = nI K) (hpf : pf j = nI P) (hzf : zf j = nI S) (hef : ef j = seed) (hK32 : K ≤ 32) (hP8 : P ≤ 8) (hK1 : 1 ≤ K) (hw : ∀ d, d < 13 → tbf (13 * j + d) = nI (wN d)) (hwb : ∀ d, d < 13 → wN d ≤ 100) (htot : 0 < rs_ws wN 12) (hS8 : S ≤ 8) (hS1 : 1 ≤ S) (hisz : isz ≤ 700) (e0 : imf 0 = nI K) (e1 : imf 1 = nI P) (e2 : imf 2 = nI S) (e3 : (rs_num imf 3 4).toInt32 = seed) (e4 : (rs_num imf 7 2).toInt32 = nI n) (e5 : isz = 11 + (n * (2 + S))) (hn7 : n ≤ 700) (e6 : lg_cmp (rs_num imf (isz - 2) 2) (rs_crc imf (isz - 2)).toInt64 = 0) : Met l yX6_resume (kw_X6_resume) ({ frames := 5, cells := 0, slots := 0, locals := 120 }) (va_Pc [.ref mo, .int (nI j)] (fun U => kRW dC dI cA [(mo, .inr (6, [.ref mw, .int (nI cnt), .ref mk, .ref mp, .ref mz, .ref me, .ref mtb, .ref my, .ref mx, .ref mu, .ref mn, .ref mg, .int hf, .int fro, .ref mf, .int (nI fsz), .ref mi, .int (nI isz), .int z, .ref mh, .ref mv, .int (nI rk), .long lf, .long lo, .ref ms])), (mk, .inl (cA 0, 4, .inl kf)), (mp, .inl (cA 0, 4, .inl pf)), (mz, .inl (cA 0, 4, .inl zf)), (me, .inl (cA 0, 4, .inl ef)), (mtb, .inl (cA 0, 52, .inl tbf)), (mx, .inl (cA 0, 256, .inl xsf)), (mu, .inl (cA 1, 256, .inr (.inl ouf))), (mn, .inl (cA 0, 4, .inl tkf)), (mi, .inl (cA 0, 700, .inl imf)), (mh, .inl (cA 1, 40, .inr (.inl hd))), (mv, .inl (cA 1, 40, .inr (.inl vl)))] sz U)) (va_Qi (fun r (u : Int32 × (Nat → Int64) × (Nat → Int64) × Nat × Int64 × Int64) => r = nI (rs_bld K P seed wN j (rs_resl K P seed wN j S imf xsf ouf (hd, vl, rk, lf, lo) n).1 (rs_resl K P seed wN j S imf xsf ouf (hd, vl, rk, lf, lo) n).2.1 (rs_resl K P seed wN j S imf xsf ouf (hd, vl, rk, lf, lo) n).2.2.2 (P + (rs_resl K P seed wN j S imf xsf ouf (hd, vl, rk, lf, lo) n).2.2.1)).2.2.1) (fun (u : Int32 × (Nat → Int64) × (Nat → Int64) × Nat × Int64 × Int64) t => kB dC dI (va_A [(mo, .inr (6, [.ref mw, .int (nI cnt), .ref mk, .ref mp, .ref mz, .ref me, .ref mtb, .ref my, .ref mx, .ref mu, .ref mn, .ref mg, .int hf, .int fro, .ref mf, .int (nI fsz), .ref mi, .int (nI isz), .int z, .ref mh, .ref mv, .int (nI rk), .long lf, .long lo, .ref ms])), (mk, .inl (cA 0, 4, .inl kf)), (mp, .inl (cA 0, 4, .inl pf)), (mz, .inl (cA 0, 4, .inl zf)), (me, .inl (cA 0, 4, .inl ef)), (mtb, .inl (cA 0, 52, .inl tbf)), (mx, .inl (cA 0, 256, .inl xsf)), (mu, .inl (cA 1, 256, .inr (.inl ouf))), (mn, .inl (cA 0, 4, .inl tkf)), (mi, .inl (cA 0, 700, .inl imf)), (mh, .inl (cA 1, 40, .inr (.inl hd))), (mv, .inl (cA 1, 40, .inr (.inl vl)))] sz) [(mo, .inr (6, [.ref mw, .int (nI cnt), .ref mk, .ref mp, .ref mz, .ref me, .ref mtb, .ref my, .ref mx, .ref mu, .ref mn, .ref mg, .int hf, .int fro, .ref mf, .int (nI fsz), .ref mi, .int (nI isz), .int u.1, .ref mh, .ref mv, .int (nI u.2.2.2.1), .long u.2.2.2.2.1, .long u.2.2.2.2.2, .ref ms])), (mk, .inl (cA 0, 4, .inl kf)), (mp, .inl (cA 0, 4, .inl pf)), (mz, .inl (cA 0, 4, .inl zf)), (me, .inl (cA 0, 4, .inl ef)), (mtb, .inl (cA 0, 52, .inl tbf)), (mx, .inl (cA 0, 256, .inl ((rs_resl K P seed wN j S imf xsf ouf (hd, vl, rk, lf, lo) n).1))), (mu, .inl (cA 1, 256, .inr (.inl ((rs_resl K P seed wN j S imf xsf ouf (hd, vl, rk, lf, lo) n).2.1)))), (mn, .inl (cA 0, 4, .inl (upd tkf j (nI (rs_resl K P seed wN j S imf xsf ouf (hd, vl, rk, lf, lo) n).2.2.1)))), (mi, .inl (cA 0, 700, .inl imf)), (mh, .inl (cA 1, 40, .inr (.inl u.2.1))), (mv, .inl (cA 1, 40, .inr (.inl u.2.2.1)))] t) (va_A [(mo, .inr (6, [.ref mw, .int (nI cnt), .ref mk, .ref mp, .ref mz, .ref me, .ref mtb, .ref my, .ref mx, .ref mu, .ref mn, .ref mg, .int hf, .int fro, .ref mf, .int (nI fsz), .ref mi, .int (nI isz), .int z, .ref mh, .ref mv, .int (nI rk), .long lf, .long lo, .ref ms])), (mk, .inl (cA 0, 4, .inl kf)), (mp, .inl (cA 0, 4, .inl pf)), (mz, .inl (cA 0, 4, .inl zf)), (me, .inl (cA 0, 4, .inl ef)), (mtb, .inl (cA 0, 52, .inl tbf)), (mx, .inl (cA 0, 256, .inl xsf)), (mu, .inl (cA 1, 256, .inr (.inl ouf))), (mn, .inl (cA 0, 4, .inl tkf)), (mi, .inl (cA 0, 700, .inl imf)), (mh, .inl (cA 1, 40, .inr (.inl hd))), (mv, .inl (cA 1, 40, .inr (.inl vl)))] sz)) 0 0 (va_A [(mo, .inr (6, [.ref mw, .int (nI cnt), .ref mk, .ref mp, .ref mz, .ref me, .ref mtb, .ref my, .ref mx, .ref mu, .ref mn, .ref mg, .int hf, .int fro, .ref mf, .int (nI fsz), .ref mi, .int (nI isz), .int z, .ref mh, .ref mv, .int (nI rk), .long lf, .long lo, .ref ms])), (mk, .inl (cA 0, 4, .inl kf)), (mp, .inl (cA 0, 4, .inl pf)), (mz, .inl (cA 0, 4, .inl zf)), (me, .inl (cA 0, 4, .inl ef)), (mtb, .inl (cA 0, 52, .inl tbf)), (mx, .inl (cA 0, 256, .inl xsf)), (mu, .inl (cA 1, 256, .inr (.inl ouf))), (mn, .inl (cA 0, 4, .inl tkf)), (mi, .inl (cA 0, 700, .inl imf)), (mh, .inl (cA 1, 40, .inr (.inl hd))), (mv, .inl (cA 1, 40, .inr (.inl vl)))] sz) := by
  refine Met.ofW (cc := cX6_resume) (maxL := 8) (ret := (some .int)) (by decide) rfl ?_
  intro p e s m args below meth c s₁ B hml hv
  obtain ⟨rfl, hsz, hP, hK, hN, hD0⟩ := hv
  have hx := B.exec
  have hb := B.bytes
  have hr := B.returns
  have hts0 := atoms_spec (ws := (kw_X6_resume)) B.pre
  have hts : ∀ w ∈ TB, w.before _ s = true := fun w h => hts0 w (List.mem_cons_of_mem _ h)
  have hown : s.vm.findClass RX6 = some m.cls := findClass_of_methodNamed B.named
  have hlocks := B.notSynchronized
  subst hsz
  have hD := hD0.self (sz := s.heap.size)
  generalize hAe : va_A [(mo, .inr (6, [.ref mw, .int (nI cnt), .ref mk, .ref mp, .ref mz, .ref me, .ref mtb, .ref my, .ref mx, .ref mu, .ref mn, .ref mg, .int hf, .int fro, .ref mf, .int (nI fsz), .ref mi, .int (nI isz), .int z, .ref mh, .ref mv, .int (nI rk), .long lf, .long lo, .ref ms])), (mk, .inl (cA 0, 4, .inl kf)), (mp, .inl (cA 0, 4, .inl pf)), (mz, .inl (cA 0, 4, .inl zf)), (me, .inl (cA 0, 4, .inl ef)), (mtb, .inl (cA 0, 52, .inl tbf)), (mx, .inl (cA 0, 256, .inl xsf)), (mu, .inl (cA 1, 256, .inr (.inl ouf))), (mn, .inl (cA 0, 4, .inl tkf)), (mi, .inl (cA 0, 700, .inl imf)), (mh, .inl (cA 1, 40, .inr (.inl hd))), (mv, .inl (cA 1, 40, .inr (.inl vl)))] s.heap.size = A at hD ⊢
  have hA : ∀ q : Nat, s.heap.size ≤ q → A q := fun q h => by rw [← hAe]; exact Or.inr h
  have hS : va_S A s.heap s.heap [] := va_S.rf
  have hk_0 := hts (.fieldLink RX6 179 "FountainRowsModel" "imageSize" "I") tb_389
  have hk_1 := hts (.fieldLink RX6 47 "FountainRowsModel" "image" "[I") tb_390
  have hk_2 := hts (.fieldLink RX6 13 "FountainRowsModel" "ks" "[I") tb_308
  have hk_3 := hts (.fieldLink RX6 16 "FountainRowsModel" "ps" "[I") tb_309
  have hk_4 := hts (.fieldLink RX6 19 "FountainRowsModel" "sizes" "[I") tb_310
  have hk_5 := hts (.fieldLink RX6 22 "FountainRowsModel" "seeds" "[I") tb_337
  have hk_6 := hts (.fieldLink RX6 38 "FountainRowsModel" "taken" "[I") tb_383
  have hk_7 := hts (.fieldLink RX6 138 "FountainRowsModel" "rank" "I") tb_373
  have hl := lv_entry ([.ref mo, .int (nI j)]) (n := 8) (Nat.le_of_ble_eq_true rfl)
  rw [lg_entry_eq]
  generalize (lg_sl ([.ref mo, .int (nI j)]) ++ List.replicate (8 - (lg_sl ([.ref mo, .int (nI j)])).length) Slot.unset).toArray = ls at hl ⊢
  have hl : lv_has ls 8 [(0, .ref mo), (1, .int (nI j))] := hl
  refine lv_aload_n hx hb dX6_resume_0 rfl (lv_at hl 0 rfl) ?_
  refine lv_iload_n hx hb dX6_resume_1 rfl (lv_at hl 1 rfl) ?_
  have hPc := hP.sub (ws' := [(mo, .inr (6, [.ref mw, .int (nI cnt), .ref mk, .ref mp, .ref mz, .ref me, .ref mtb, .ref my, .ref mx, .ref mu, .ref mn, .ref mg, .int hf, .int fro, .ref mf, .int (nI fsz), .ref mi, .int (nI isz), .int z, .ref mh, .ref mv, .int (nI rk), .long lf, .long lo, .ref ms]))]) [0] rfl
  refine kq_csi (va_runV (As := [.int (nI j)]) (rest := []) ⟨hx, hb, hml, hown, hts⟩ (c_M_isSource l dC dI cA mo mw mk mp mz me mtb my mx mu mn mg mf mi mh mv ms cnt hf fro fsz isz z rk lf lo (nI j)) (cwV 1 hts (kg_V tb_315 tb_316 tb_317 tb_318 tb_314) rfl rfl rfl (by decide +kernel) ⟨Nat.le_of_ble_eq_true rfl, Nat.le_of_ble_eq_true rfl⟩) (kpv_ro hK hN hPc (ci := 6) (q0 := 0) rfl rfl rfl) rfl rfl hl.1 rfl (lv_room (Nat.le_of_ble_eq_true rfl)) dX6_resume_2 ⟨Nat.le_of_ble_eq_true rfl, Nat.le_of_ble_eq_true rfl⟩) (fun r_1 hr_1 => ?_)
  refine kt_i (y := sp_has cnt (nI j)) hr_1 ?_
  refine lv_if_ne (tgt := 10) hx hb dX6_resume_5 (by decide) (fun c_2 => ?_) (fun c_2 => ?_)
  · have c_2 : ¬ ((sp_has cnt (nI j)) = 0) := c_2
    refine lv_aload_n hx hb dX6_resume_10 rfl (lv_at hl 0 rfl) ?_
    refine va_get (D := (dC, dI)) (ci := 6) (v := .int (nI isz)) (C := RX6) (T := TX6) (N := 25) hx hb hts inX6 hown hK hP 0 rfl rfl 17 (by decide) hk_0 (fun _ h9 => h9) rfl dX6_resume_11 ?_
    refine lv_bipush (v := 11) hx hb dX6_resume_14 (by decide) ?_
    refine lv_icmp_ge (tgt := 22) hx hb dX6_resume_16 (by decide) (fun c_3 => ?_) (fun c_3 => ?_)
    · have c_3 : 11 ≤ (nI isz) := c_3
      refine lv_aload_n hx hb dX6_resume_22 rfl (lv_at hl 0 rfl) ?_
      refine va_get (D := (dC, dI)) (ci := 6) (v := .ref mi) (C := RX6) (T := TX6) (N := 25) hx hb hts inX6 hown hK hP 0 rfl rfl 16 (by decide) hk_1 (fun _ h9 => h9) rfl dX6_resume_23 ?_
      refine lv_iconst (v := 0) hx hb dX6_resume_26 (by decide) ?_
      refine va_iald (D := (dC, dI)) hx hb hK hP 9 0 rfl rfl (by unfold vp_in; decide) dX6_resume_27 ?_
      refine lv_aload_n hx hb dX6_resume_28 rfl (lv_at hl 0 rfl) ?_
      refine va_get (D := (dC, dI)) (ci := 6) (v := .ref mk) (C := RX6) (T := TX6) (N := 25) hx hb hts inX6 hown hK hP 0 rfl rfl 2 (by decide) hk_2 (fun _ h9 => h9) rfl dX6_resume_29 ?_
      refine lv_iload_n hx hb dX6_resume_32 rfl (lv_at hl 1 rfl) ?_
      refine va_iald (D := (dC, dI)) hx hb hK hP 1 0 rfl rfl (vp_in_nI hj4 (by omega)) dX6_resume_33 ?_
      refine kt_i (congrArg kf (nI_clamp (by omega : j < 2 ^ 31))) ?_
      refine kt_i (y := nI K) hkf ?_
      refine lv_icmp_ne (tgt := 83) hx hb dX6_resume_34 (by decide) (fun c_4 => ?_) (fun c_4 => ?_)
      · have c_4 : ¬ ((imf 0) = (nI K)) := c_4
        exact absurd e0 c_4
      · have c_4 : (imf 0) = (nI K) := c_4
        refine lv_aload_n hx hb dX6_resume_37 rfl (lv_at hl 0 rfl) ?_
        refine va_get (D := (dC, dI)) (ci := 6) (v := .ref mi) (C := RX6) (T := TX6) (N := 25) hx hb hts inX6 hown hK hP 0 rfl rfl 16 (by decide) hk_1 (fun _ h9 => h9) rfl dX6_resume_38 ?_
        refine lv_iconst (v := 1) hx hb dX6_resume_41 (by decide) ?_
        refine va_iald (D := (dC, dI)) hx hb hK hP 9 0 rfl rfl (by unfold vp_in; decide) dX6_resume_42 ?_
        refine lv_aload_n hx hb dX6_resume_43 rfl (lv_at hl 0 rfl) ?_
        refine va_get (D := (dC, dI)) (ci := 6) (v := .ref mp) (C := RX6) (T := TX6) (N := 25) hx hb hts inX6 hown hK hP 0 rfl rfl 3 (by decide) hk_3 (fun _ h9 => h9) rfl dX6_resume_44 ?_
        refine lv_iload_n hx hb dX6_resume_47 rfl (lv_at hl 1 rfl) ?_
        refine va_iald (D := (dC, dI)) hx hb hK hP 2 0 rfl rfl (vp_in_nI hj4 (by omega)) dX6_resume_48 ?_
        refine kt_i (congrArg pf (nI_clamp (by omega : j < 2 ^ 31))) ?_
        refine kt_i (y := nI P) hpf ?_
        refine lv_icmp_ne (tgt := 83) hx hb dX6_resume_49 (by decide) (fun c_5 => ?_) (fun c_5 => ?_)
        · have c_5 : ¬ ((imf 1) = (nI P)) := c_5
          exact absurd e1 c_5
        · have c_5 : (imf 1) = (nI P) := c_5
          refine lv_aload_n hx hb dX6_resume_52 rfl (lv_at hl 0 rfl) ?_
          refine va_get (D := (dC, dI)) (ci := 6) (v := .ref mi) (C := RX6) (T := TX6) (N := 25) hx hb hts inX6 hown hK hP 0 rfl rfl 16 (by decide) hk_1 (fun _ h9 => h9) rfl dX6_resume_53 ?_
          refine lv_iconst (v := 2) hx hb dX6_resume_56 (by decide) ?_
          refine va_iald (D := (dC, dI)) hx hb hK hP 9 0 rfl rfl (by unfold vp_in; decide) dX6_resume_57 ?_
          refine lv_aload_n hx hb dX6_resume_58 rfl (lv_at hl 0 rfl) ?_
          refine va_get (D := (dC, dI)) (ci := 6) (v := .ref mz) (C := RX6) (T := TX6) (N := 25) hx hb hts inX6 hown hK hP 0 rfl rfl 4 (by decide) hk_4 (fun _ h9 => h9) rfl dX6_resume_59 ?_
          refine lv_iload_n hx hb dX6_resume_62 rfl (lv_at hl 1 rfl) ?_
          refine va_iald (D := (dC, dI)) hx hb hK hP 3 0 rfl rfl (vp_in_nI hj4 (by omega)) dX6_resume_63 ?_
          refine kt_i (congrArg zf (nI_clamp (by omega : j < 2 ^ 31))) ?_
          refine kt_i (y := nI S) hzf ?_
          refine lv_icmp_ne (tgt := 83) hx hb dX6_resume_64 (by decide) (fun c_6 => ?_) (fun c_6 => ?_)
          · have c_6 : ¬ ((imf 2) = (nI S)) := c_6
            exact absurd e2 c_6
          · have c_6 : (imf 2) = (nI S) := c_6
            refine lv_aload_n hx hb dX6_resume_67 rfl (lv_at hl 0 rfl) ?_
            refine lv_iconst (v := 3) hx hb dX6_resume_68 (by decide) ?_
            refine lv_iconst (v := 4) hx hb dX6_resume_69 (by decide) ?_
            have hPc := hP.sub (ws' := [(mo, .inr (6, [.ref mw, .int (nI cnt), .ref mk, .ref mp, .ref mz, .ref me, .ref mtb, .ref my, .ref mx, .ref mu, .ref mn, .ref mg, .int hf, .int fro, .ref mf, .int (nI fsz), .ref mi, .int (nI isz), .int z, .ref mh, .ref mv, .int (nI rk), .long lf, .long lo, .ref ms])), (mi, .inl (cA 0, 700, .inl imf))]) [0, 9] rfl
            refine kq_csl (va_runV (As := [.int (nI 3), .int (nI 4)]) (rest := []) ⟨hx, hb, hml, hown, hts⟩ (c_M_number l dC dI cA mo mw mk mp mz me mtb my mx mu mn mg mf mi mh mv ms cnt hf fro fsz isz z rk lf lo imf 3 4 (by decide)) (cwV 2 hts (kg_V tb_440 tb_441 tb_442 tb_318 tb_439) rfl rfl rfl (by decide +kernel) ⟨Nat.le_of_ble_eq_true rfl, Nat.le_of_ble_eq_true rfl⟩) (kpv_ro hK hN hPc (ci := 6) (q0 := 0) rfl rfl rfl) rfl rfl hl.1 rfl (lv_room (Nat.le_of_ble_eq_true rfl)) dX6_resume_70 ⟨Nat.le_of_ble_eq_true rfl, Nat.le_of_ble_eq_true rfl⟩) (fun r_7 hr_7 => ?_)
            refine kt_l (y := rs_num imf 3 4) hr_7 ?_
            refine lv_l2i (v := (rs_num imf 3 4).toInt32) hx hb dX6_resume_73 rfl ?_
            refine lv_aload_n hx hb dX6_resume_74 rfl (lv_at hl 0 rfl) ?_
            refine va_get (D := (dC, dI)) (ci := 6) (v := .ref me) (C := RX6) (T := TX6) (N := 25) hx hb hts inX6 hown hK hP 0 rfl rfl 5 (by decide) hk_5 (fun _ h9 => h9) rfl dX6_resume_75 ?_
            refine lv_iload_n hx hb dX6_resume_78 rfl (lv_at hl 1 rfl) ?_
            refine va_iald (D := (dC, dI)) hx hb hK hP 4 0 rfl rfl (vp_in_nI hj4 (by omega)) dX6_resume_79 ?_
            refine kt_i (congrArg ef (nI_clamp (by omega : j < 2 ^ 31))) ?_
            refine kt_i (y := seed) hef ?_
            refine lv_icmp_eq (tgt := 86) hx hb dX6_resume_80 (by decide) (fun c_8 => ?_) (fun c_8 => ?_)
            · have c_8 : ((rs_num imf 3 4).toInt32) = seed := c_8
              refine lv_aload_n hx hb dX6_resume_86 rfl (lv_at hl 0 rfl) ?_
              refine lv_bipush (v := 7) hx hb dX6_resume_87 (by decide) ?_
              refine lv_iconst (v := 2) hx hb dX6_resume_89 (by decide) ?_
              have hPc := hP.sub (ws' := [(mo, .inr (6, [.ref mw, .int (nI cnt), .ref mk, .ref mp, .ref mz, .ref me, .ref mtb, .ref my, .ref mx, .ref mu, .ref mn, .ref mg, .int hf, .int fro, .ref mf, .int (nI fsz), .ref mi, .int (nI isz), .int z, .ref mh, .ref mv, .int (nI rk), .long lf, .long lo, .ref ms])), (mi, .inl (cA 0, 700, .inl imf))]) [0, 9] rfl
              refine kq_csl (va_runV (As := [.int (nI 7), .int (nI 2)]) (rest := []) ⟨hx, hb, hml, hown, hts⟩ (c_M_number l dC dI cA mo mw mk mp mz me mtb my mx mu mn mg mf mi mh mv ms cnt hf fro fsz isz z rk lf lo imf 7 2 (by decide)) (cwV 2 hts (kg_V tb_440 tb_441 tb_442 tb_318 tb_439) rfl rfl rfl (by decide +kernel) ⟨Nat.le_of_ble_eq_true rfl, Nat.le_of_ble_eq_true rfl⟩) (kpv_ro hK hN hPc (ci := 6) (q0 := 0) rfl rfl rfl) rfl rfl hl.1 rfl (lv_room (Nat.le_of_ble_eq_true rfl)) dX6_resume_90 ⟨Nat.le_of_ble_eq_true rfl, Nat.le_of_ble_eq_true rfl⟩) (fun r_9 hr_9 => ?_)
              refine kt_l (y := rs_num imf 7 2) hr_9 ?_
              refine lv_l2i (v := (rs_num imf 7 2).toInt32) hx hb dX6_resume_93 rfl ?_
              refine kt_i (y := nI n) e4 ?_
              refine lv_istore_n (lv' := [(2, .int (nI n)), (0, .ref mo), (1, .int (nI j))]) hx hb dX6_resume_94 rfl hl (by decide) rfl (fun ls hl => ?_)
              refine lv_iconst (v := 2) hx hb dX6_resume_95 (by decide) ?_
              refine lv_aload_n hx hb dX6_resume_96 rfl (lv_at hl 1 rfl) ?_
              refine va_get (D := (dC, dI)) (ci := 6) (v := .ref mz) (C := RX6) (T := TX6) (N := 25) hx hb hts inX6 hown hK hP 0 rfl rfl 4 (by decide) hk_4 (fun _ h9 => h9) rfl dX6_resume_97 ?_
              refine lv_iload_n hx hb dX6_resume_100 rfl (lv_at hl 2 rfl) ?_
              refine va_iald (D := (dC, dI)) hx hb hK hP 3 0 rfl rfl (vp_in_nI hj4 (by omega)) dX6_resume_101 ?_
              refine kt_i (congrArg zf (nI_clamp (by omega : j < 2 ^ 31))) ?_
              refine kt_i (y := nI S) hzf ?_
              refine lv_iadd hx hb dX6_resume_102 ?_
              refine kt_i (y := nI (2 + S)) (nI_add 2 S) ?_
              refine lv_istore_n (lv' := [(3, .int (nI (2 + S))), (2, .int (nI n)), (0, .ref mo), (1, .int (nI j))]) hx hb dX6_resume_103 rfl hl (by decide) rfl (fun ls hl => ?_)
              refine lv_aload_n hx hb dX6_resume_104 rfl (lv_at hl 2 rfl) ?_
              refine va_get (D := (dC, dI)) (ci := 6) (v := .int (nI isz)) (C := RX6) (T := TX6) (N := 25) hx hb hts inX6 hown hK hP 0 rfl rfl 17 (by decide) hk_0 (fun _ h9 => h9) rfl dX6_resume_105 ?_
              refine lv_bipush (v := 11) hx hb dX6_resume_108 (by decide) ?_
              refine lv_iload_n hx hb dX6_resume_110 rfl (lv_at hl 1 rfl) ?_
              refine lv_iload_n hx hb dX6_resume_111 rfl (lv_at hl 0 rfl) ?_
              refine lv_imul hx hb dX6_resume_112 ?_
              refine kt_i (y := nI (n * (2 + S))) (pk_mul n (2 + S)) ?_
              refine lv_iadd hx hb dX6_resume_113 ?_
              refine kt_i (y := nI (11 + (n * (2 + S)))) (nI_add 11 (n * (2 + S))) ?_
              refine lv_icmp_eq (tgt := 120) hx hb dX6_resume_114 (by decide) (fun c_10 => ?_) (fun c_10 => ?_)
              · have c_10 : (nI isz) = (nI (11 + (n * (2 + S)))) := c_10
                refine lv_aload_n hx hb dX6_resume_120 rfl (lv_at hl 2 rfl) ?_
                refine lv_aload_n hx hb dX6_resume_121 rfl (lv_at hl 2 rfl) ?_
                refine va_get (D := (dC, dI)) (ci := 6) (v := .int (nI isz)) (C := RX6) (T := TX6) (N := 25) hx hb hts inX6 hown hK hP 0 rfl rfl 17 (by decide) hk_0 (fun _ h9 => h9) rfl dX6_resume_122 ?_
                refine lv_iconst (v := 2) hx hb dX6_resume_125 (by decide) ?_
                refine lv_isub hx hb dX6_resume_126 ?_
                refine kt_i (y := nI (isz - 2)) (pk_sub (a := isz) (b := 2) (by omega)) ?_
                refine lv_iconst (v := 2) hx hb dX6_resume_127 (by decide) ?_
                have hPc := hP.sub (ws' := [(mo, .inr (6, [.ref mw, .int (nI cnt), .ref mk, .ref mp, .ref mz, .ref me, .ref mtb, .ref my, .ref mx, .ref mu, .ref mn, .ref mg, .int hf, .int fro, .ref mf, .int (nI fsz), .ref mi, .int (nI isz), .int z, .ref mh, .ref mv, .int (nI rk), .long lf, .long lo, .ref ms])), (mi, .inl (cA 0, 700, .inl imf))]) [0, 9] rfl
                refine kq_csl (va_runV (As := [.int (nI (isz - 2)), .int (nI 2)]) (rest := []) ⟨hx, hb, hml, hown, hts⟩ (c_M_number l dC dI cA mo mw mk mp mz me mtb my mx mu mn mg mf mi mh mv ms cnt hf fro fsz isz z rk lf lo imf (isz - 2) 2 (by omega)) (cwV 2 hts (kg_V tb_440 tb_441 tb_442 tb_318 tb_439) rfl rfl rfl (by decide +kernel) ⟨Nat.le_of_ble_eq_true rfl, Nat.le_of_ble_eq_true rfl⟩) (kpv_ro hK hN hPc (ci := 6) (q0 := 0) rfl rfl rfl) rfl rfl hl.1 rfl (lv_room (Nat.le_of_ble_eq_true rfl)) dX6_resume_128 ⟨Nat.le_of_ble_eq_true rfl, Nat.le_of_ble_eq_true rfl⟩) (fun r_11 hr_11 => ?_)
                refine kt_l (y := rs_num imf (isz - 2) 2) hr_11 ?_
                refine lv_aload_n hx hb dX6_resume_131 rfl (lv_at hl 2 rfl) ?_
                refine lv_aload_n hx hb dX6_resume_132 rfl (lv_at hl 2 rfl) ?_
                refine va_get (D := (dC, dI)) (ci := 6) (v := .ref mi) (C := RX6) (T := TX6) (N := 25) hx hb hts inX6 hown hK hP 0 rfl rfl 16 (by decide) hk_1 (fun _ h9 => h9) rfl dX6_resume_133 ?_
                refine lv_aload_n hx hb dX6_resume_136 rfl (lv_at hl 2 rfl) ?_
                refine va_get (D := (dC, dI)) (ci := 6) (v := .int (nI isz)) (C := RX6) (T := TX6) (N := 25) hx hb hts inX6 hown hK hP 0 rfl rfl 17 (by decide) hk_0 (fun _ h9 => h9) rfl dX6_resume_137 ?_
                refine lv_iconst (v := 2) hx hb dX6_resume_140 (by decide) ?_
                refine lv_isub hx hb dX6_resume_141 ?_
                refine kt_i (y := nI (isz - 2)) (pk_sub (a := isz) (b := 2) (by omega)) ?_
                have hPc := hP.sub (ws' := [(mo, .inr (6, [.ref mw, .int (nI cnt), .ref mk, .ref mp, .ref mz, .ref me, .ref mtb, .ref my, .ref mx, .ref mu, .ref mn, .ref mg, .int hf, .int fro, .ref mf, .int (nI fsz), .ref mi, .int (nI isz), .int z, .ref mh, .ref mv, .int (nI rk), .long lf, .long lo, .ref ms])), (mi, .inl (cA 0, 700, .inl imf))]) [0, 9] rfl
                refine kq_csi (va_runV (As := [.ref mi, .int (nI (isz - 2))]) (rest := [.long (rs_num imf (isz - 2) 2)]) ⟨hx, hb, hml, hown, hts⟩ (c_M_sum l dC dI cA mo mw mk mp mz me mtb my mx mu mn mg mf mi mh mv ms cnt hf fro fsz isz z rk lf lo mi 700 imf (isz - 2) (by omega) (by decide)) (cwV 2 hts (kg_V tb_362 tb_363 tb_364 tb_318 tb_361) rfl rfl rfl (by decide +kernel) ⟨Nat.le_of_ble_eq_true rfl, Nat.le_of_ble_eq_true rfl⟩) (kpv_ro hK hN hPc (ci := 6) (q0 := 0) rfl rfl rfl) rfl rfl hl.1 rfl (lv_room (Nat.le_of_ble_eq_true rfl)) dX6_resume_142 ⟨Nat.le_of_ble_eq_true rfl, Nat.le_of_ble_eq_true rfl⟩) (fun r_12 hr_12 => ?_)
                refine kt_i (y := rs_crc imf (isz - 2)) hr_12 ?_
                refine lv_i2l (v := (rs_crc imf (isz - 2)).toInt64) hx hb dX6_resume_145 rfl ?_
                refine W.lcmp hx hb dX6_resume_146 ?_
                refine lv_if_eq (tgt := 153) hx hb dX6_resume_147 (by decide) (fun c_13 => ?_) (fun c_13 => ?_)
                · have c_13 : (lg_cmp (rs_num imf (isz - 2) 2) ((rs_crc imf (isz - 2)).toInt64)) = 0 := c_13
                  refine lv_aload_n hx hb dX6_resume_153 rfl (lv_at hl 2 rfl) ?_
                  refine va_get (D := (dC, dI)) (ci := 6) (v := .ref mn) (C := RX6) (T := TX6) (N := 25) hx hb hts inX6 hown hK hP 0 rfl rfl 10 (by decide) hk_6 (fun _ h9 => h9) rfl dX6_resume_154 ?_
                  refine lv_iload_n hx hb dX6_resume_157 rfl (lv_at hl 3 rfl) ?_
                  refine lv_iconst (v := 0) hx hb dX6_resume_158 (by decide) ?_
                  refine va_iast (D := (dC, dI)) hx hb hK hP hD hS 8 0 rfl rfl (vp_in_nI hj4 (by omega)) dX6_resume_159 (fun H locs hP hD hS => ?_)
                  rw [nI_clamp (by omega : j < 2 ^ 31)] at hP hD
                  have hP : va_P (dC, dI) vwCl [(mo, .inr (6, [.ref mw, .int (nI cnt), .ref mk, .ref mp, .ref mz, .ref me, .ref mtb, .ref my, .ref mx, .ref mu, .ref mn, .ref mg, .int hf, .int fro, .ref mf, .int (nI fsz), .ref mi, .int (nI isz), .int z, .ref mh, .ref mv, .int (nI rk), .long lf, .long lo, .ref ms])), (mk, .inl (cA 0, 4, .inl kf)), (mp, .inl (cA 0, 4, .inl pf)), (mz, .inl (cA 0, 4, .inl zf)), (me, .inl (cA 0, 4, .inl ef)), (mtb, .inl (cA 0, 52, .inl tbf)), (mx, .inl (cA 0, 256, .inl xsf)), (mu, .inl (cA 1, 256, .inr (.inl ouf))), (mn, .inl (cA 0, 4, .inl (upd tkf j 0))), (mi, .inl (cA 0, 700, .inl imf)), (mh, .inl (cA 1, 40, .inr (.inl hd))), (mv, .inl (cA 1, 40, .inr (.inl vl)))] H := hP
                  have hD : va_D A [(mo, .inr (6, [.ref mw, .int (nI cnt), .ref mk, .ref mp, .ref mz, .ref me, .ref mtb, .ref my, .ref mx, .ref mu, .ref mn, .ref mg, .int hf, .int fro, .ref mf, .int (nI fsz), .ref mi, .int (nI isz), .int z, .ref mh, .ref mv, .int (nI rk), .long lf, .long lo, .ref ms])), (mk, .inl (cA 0, 4, .inl kf)), (mp, .inl (cA 0, 4, .inl pf)), (mz, .inl (cA 0, 4, .inl zf)), (me, .inl (cA 0, 4, .inl ef)), (mtb, .inl (cA 0, 52, .inl tbf)), (mx, .inl (cA 0, 256, .inl xsf)), (mu, .inl (cA 1, 256, .inr (.inl ouf))), (mn, .inl (cA 0, 4, .inl (upd tkf j 0))), (mi, .inl (cA 0, 700, .inl imf)), (mh, .inl (cA 1, 40, .inr (.inl hd))), (mv, .inl (cA 1, 40, .inr (.inl vl)))] := hD
                  refine lv_iconst (v := 0) hx hb dX6_resume_160 (by decide) ?_
                  refine lv_istore (lv' := [(4, .int 0), (3, .int (nI (2 + S))), (2, .int (nI n)), (0, .ref mo), (1, .int (nI j))]) hx hb dX6_resume_161 hl (by decide) rfl (fun ls hl => ?_)
                  have hi_hk : 0 ≤ n := (by omega)
                  have hi_ht64 : 0 ≤ 64 := (by omega)
                  have hi_hft : (upd tkf j 0) = upd tkf j (nI 0) := rfl
                  have hi_hX : (xsf, ouf, 0, (hd, vl, rk, lf, lo)) = (rs_resl K P seed wN j S imf xsf ouf (hd, vl, rk, lf, lo) 0) := rfl
                  have hl9 : lv_has ls 8 [(4, .int (nI 0)), (3, .int (nI (2 + S))), (2, .int (nI n)), (0, .ref mo), (1, .int (nI j))] := lv_sub hl [0, 1, 2, 3, 4] rfl
                  refine k_loop7 (I := fun (k : Nat) (x1 : Nat → Int32) (o1 : Nat → Int64) (f1 : Nat → Int32) (t1 : Nat) (S9 : SpS) (z1 : Int32) (H : Heap) (locs : List Loc) (ls : Array Slot) => (k ≤ n) ∧ (t1 ≤ 64) ∧ (f1 = upd tkf j (nI t1)) ∧ ((x1, o1, t1, S9) = (rs_resl K P seed wN j S imf xsf ouf (hd, vl, rk, lf, lo) k)) ∧ lv_has ls 8 [(4, .int (nI k)), (3, .int (nI (2 + S))), (2, .int (nI n)), (0, .ref mo), (1, .int (nI j))] ∧ va_P (dC, dI) vwCl [(mo, .inr (6, [.ref mw, .int (nI cnt), .ref mk, .ref mp, .ref mz, .ref me, .ref mtb, .ref my, .ref mx, .ref mu, .ref mn, .ref mg, .int hf, .int fro, .ref mf, .int (nI fsz), .ref mi, .int (nI isz), .int z1, .ref mh, .ref mv, .int (nI S9.2.2.1), .long S9.2.2.2.1, .long S9.2.2.2.2, .ref ms])), (mk, .inl (cA 0, 4, .inl kf)), (mp, .inl (cA 0, 4, .inl pf)), (mz, .inl (cA 0, 4, .inl zf)), (me, .inl (cA 0, 4, .inl ef)), (mtb, .inl (cA 0, 52, .inl tbf)), (mx, .inl (cA 0, 256, .inl x1)), (mu, .inl (cA 1, 256, .inr (.inl o1))), (mn, .inl (cA 0, 4, .inl f1)), (mi, .inl (cA 0, 700, .inl imf)), (mh, .inl (cA 1, 40, .inr (.inl S9.1))), (mv, .inl (cA 1, 40, .inr (.inl S9.2.1)))] H ∧ va_D A [(mo, .inr (6, [.ref mw, .int (nI cnt), .ref mk, .ref mp, .ref mz, .ref me, .ref mtb, .ref my, .ref mx, .ref mu, .ref mn, .ref mg, .int hf, .int fro, .ref mf, .int (nI fsz), .ref mi, .int (nI isz), .int z1, .ref mh, .ref mv, .int (nI S9.2.2.1), .long S9.2.2.2.1, .long S9.2.2.2.2, .ref ms])), (mk, .inl (cA 0, 4, .inl kf)), (mp, .inl (cA 0, 4, .inl pf)), (mz, .inl (cA 0, 4, .inl zf)), (me, .inl (cA 0, 4, .inl ef)), (mtb, .inl (cA 0, 52, .inl tbf)), (mx, .inl (cA 0, 256, .inl x1)), (mu, .inl (cA 1, 256, .inr (.inl o1))), (mn, .inl (cA 0, 4, .inl f1)), (mi, .inl (cA 0, 700, .inl imf)), (mh, .inl (cA 1, 40, .inr (.inl S9.1))), (mv, .inl (cA 1, 40, .inr (.inl S9.2.1)))] ∧ va_S A s.heap H locs) (μ := fun k x1 o1 f1 t1 S9 z1 => n - k) ?_ 0 xsf ouf (upd tkf j 0) 0 (hd, vl, rk, lf, lo) z ⟨hi_hk, hi_ht64, hi_hft, hi_hX, hl9, hP, hD, hS⟩
                  intro k x1 o1 f1 t1 S9 z1 H locs ls hI9 ih_L0
                  obtain ⟨hk, ht64, hft, hX, hl, hP, hD, hS⟩ := hI9
                  have hft1 : f1 j = nI t1 := by rw [hft]; exact pk_us
                  refine lv_iload hx hb dX6_resume_163 (lv_at hl 0 rfl) ?_
                  refine lv_iload_n hx hb dX6_resume_165 rfl (lv_at hl 2 rfl) ?_
                  refine lv_icmp_ge (tgt := 251) hx hb dX6_resume_166 (by decide) (fun c_14 => ?_) (fun c_14 => ?_)
                  · have c_14 : (nI n) ≤ (nI k) := c_14
                    have hk9 : n ≤ k := (ku_le (a := n) (b := k) (by omega) (by omega)).mp c_14
                    have ek : k = n := by omega
                    refine lv_aload_n hx hb dX6_resume_251 rfl (lv_at hl 3 rfl) ?_
                    refine lv_iload_n hx hb dX6_resume_252 rfl (lv_at hl 4 rfl) ?_
                    have hPc := hP.sub (ws' := [(mo, .inr (6, [.ref mw, .int (nI cnt), .ref mk, .ref mp, .ref mz, .ref me, .ref mtb, .ref my, .ref mx, .ref mu, .ref mn, .ref mg, .int hf, .int fro, .ref mf, .int (nI fsz), .ref mi, .int (nI isz), .int z1, .ref mh, .ref mv, .int (nI S9.2.2.1), .long S9.2.2.2.1, .long S9.2.2.2.2, .ref ms])), (mk, .inl (cA 0, 4, .inl kf)), (mp, .inl (cA 0, 4, .inl pf)), (me, .inl (cA 0, 4, .inl ef)), (mtb, .inl (cA 0, 52, .inl tbf)), (mx, .inl (cA 0, 256, .inl x1)), (mu, .inl (cA 1, 256, .inr (.inl o1))), (mn, .inl (cA 0, 4, .inl f1)), (mh, .inl (cA 1, 40, .inr (.inl S9.1))), (mv, .inl (cA 1, 40, .inr (.inl S9.2.1)))]) [0, 1, 2, 4, 5, 6, 7, 8, 10, 11] rfl
                    have hDc := hD.sub (ws' := [(mo, .inr (6, [.ref mw, .int (nI cnt), .ref mk, .ref mp, .ref mz, .ref me, .ref mtb, .ref my, .ref mx, .ref mu, .ref mn, .ref mg, .int hf, .int fro, .ref mf, .int (nI fsz), .ref mi, .int (nI isz), .int z1, .ref mh, .ref mv, .int (nI S9.2.2.1), .long S9.2.2.2.1, .long S9.2.2.2.2, .ref ms])), (mk, .inl (cA 0, 4, .inl kf)), (mp, .inl (cA 0, 4, .inl pf)), (me, .inl (cA 0, 4, .inl ef)), (mtb, .inl (cA 0, 52, .inl tbf)), (mx, .inl (cA 0, 256, .inl x1)), (mu, .inl (cA 1, 256, .inr (.inl o1))), (mn, .inl (cA 0, 4, .inl f1)), (mh, .inl (cA 1, 40, .inr (.inl S9.1))), (mv, .inl (cA 1, 40, .inr (.inl S9.2.1)))]) [0, 1, 2, 4, 5, 6, 7, 8, 10, 11] (by decide) rfl
                    have hFc := va_free (wc := [(mo, .inr (6, [.ref mw, .int (nI cnt), .ref mk, .ref mp, .ref mz, .ref me, .ref mtb, .ref my, .ref mx, .ref mu, .ref mn, .ref mg, .int hf, .int fro, .ref mf, .int (nI fsz), .ref mi, .int (nI isz), .int z1, .ref mh, .ref mv, .int (nI S9.2.2.1), .long S9.2.2.2.1, .long S9.2.2.2.2, .ref ms])), (mk, .inl (cA 0, 4, .inl kf)), (mp, .inl (cA 0, 4, .inl pf)), (me, .inl (cA 0, 4, .inl ef)), (mtb, .inl (cA 0, 52, .inl tbf)), (mx, .inl (cA 0, 256, .inl x1)), (mu, .inl (cA 1, 256, .inr (.inl o1))), (mn, .inl (cA 0, 4, .inl f1)), (mh, .inl (cA 1, 40, .inr (.inl S9.1))), (mv, .inl (cA 1, 40, .inr (.inl S9.2.1)))]) hD hS hA [0, 1, 2, 4, 5, 6, 7, 8, 10, 11] rfl
                    refine va_callv (va_runV (As := [.int (nI j)]) (rest := []) ⟨hx, hb, hml, hown, hts⟩ (c_M_build l dC dI cA H.size mo mw mk mp mz me mtb my mx mu mn mg mf mi mh mv ms cnt hf fro fsz isz z1 kf pf ef tbf x1 o1 f1 j K P t1 seed wN S9 (by first | assumption | omega) (by first | assumption | omega) (by first | assumption | omega) (by first | assumption | omega) hft1 (by first | assumption | omega) (by first | assumption | omega) (by first | assumption | omega) (by first | assumption | omega) (by first | assumption | omega) (by first | assumption | omega) ht64) (cwV 1 hts (kg_V tb_386 tb_387 tb_388 tb_318 tb_385) rfl rfl rfl (by decide +kernel) ⟨Nat.le_of_ble_eq_true rfl, Nat.le_of_ble_eq_true rfl⟩) (kpv_rw hK hN hPc hDc (ci := 6) (q0 := 0) rfl rfl rfl) rfl rfl hl.1 rfl (lv_room (Nat.le_of_ble_eq_true rfl)) dX6_resume_253 ⟨Nat.le_of_ble_eq_true rfl, Nat.le_of_ble_eq_true rfl⟩) hS (fun q _ h => hFc q h) hFc (fun u9 t9 H1 locs ht9 hvm9 hr_15 hB hz1 hk1 hS => ?_)
                    obtain ⟨z2_16, rfl⟩ : ∃ z, z = u9 := ⟨_, rfl⟩
                    obtain ⟨hP1, hD1⟩ := hB
                    rw [ht9] at hP1
                    obtain ⟨hP, hD⟩ := va_join (wr := [(mz, .inl (cA 0, 4, .inl zf)), (mi, .inl (cA 0, 700, .inl imf))]) (w1 := [(mo, .inr (6, [.ref mw, .int (nI cnt), .ref mk, .ref mp, .ref mz, .ref me, .ref mtb, .ref my, .ref mx, .ref mu, .ref mn, .ref mg, .int hf, .int fro, .ref mf, .int (nI fsz), .ref mi, .int (nI isz), .int z2_16, .ref mh, .ref mv, .int (nI ((rs_bld K P seed wN j x1 o1 S9 (P + t1)).2.2.1)), .long ((rs_bld K P seed wN j x1 o1 S9 (P + t1)).2.2.2.1), .long ((rs_bld K P seed wN j x1 o1 S9 (P + t1)).2.2.2.2), .ref ms])), (mk, .inl (cA 0, 4, .inl kf)), (mp, .inl (cA 0, 4, .inl pf)), (me, .inl (cA 0, 4, .inl ef)), (mtb, .inl (cA 0, 52, .inl tbf)), (mx, .inl (cA 0, 256, .inl x1)), (mu, .inl (cA 1, 256, .inr (.inl o1))), (mn, .inl (cA 0, 4, .inl f1)), (mh, .inl (cA 1, 40, .inr (.inl ((rs_bld K P seed wN j x1 o1 S9 (P + t1)).1)))), (mv, .inl (cA 1, 40, .inr (.inl ((rs_bld K P seed wN j x1 o1 S9 (P + t1)).2.1))))]) hP hD [0, 1, 2, 4, 5, 6, 7, 8, 10, 11] [3, 9] rfl rfl (by decide) (by decide) hk1 hFc hP1 hD1
                    generalize H1 = H at hP hS ⊢
                    have hP : va_P (dC, dI) vwCl [(mz, .inl (cA 0, 4, .inl zf)), (mi, .inl (cA 0, 700, .inl imf)), (mo, .inr (6, [.ref mw, .int (nI cnt), .ref mk, .ref mp, .ref mz, .ref me, .ref mtb, .ref my, .ref mx, .ref mu, .ref mn, .ref mg, .int hf, .int fro, .ref mf, .int (nI fsz), .ref mi, .int (nI isz), .int z2_16, .ref mh, .ref mv, .int (nI ((rs_bld K P seed wN j x1 o1 S9 (P + t1)).2.2.1)), .long ((rs_bld K P seed wN j x1 o1 S9 (P + t1)).2.2.2.1), .long ((rs_bld K P seed wN j x1 o1 S9 (P + t1)).2.2.2.2), .ref ms])), (mk, .inl (cA 0, 4, .inl kf)), (mp, .inl (cA 0, 4, .inl pf)), (me, .inl (cA 0, 4, .inl ef)), (mtb, .inl (cA 0, 52, .inl tbf)), (mx, .inl (cA 0, 256, .inl x1)), (mu, .inl (cA 1, 256, .inr (.inl o1))), (mn, .inl (cA 0, 4, .inl f1)), (mh, .inl (cA 1, 40, .inr (.inl ((rs_bld K P seed wN j x1 o1 S9 (P + t1)).1)))), (mv, .inl (cA 1, 40, .inr (.inl ((rs_bld K P seed wN j x1 o1 S9 (P + t1)).2.1))))] H := hP
                    have hD : va_D A [(mz, .inl (cA 0, 4, .inl zf)), (mi, .inl (cA 0, 700, .inl imf)), (mo, .inr (6, [.ref mw, .int (nI cnt), .ref mk, .ref mp, .ref mz, .ref me, .ref mtb, .ref my, .ref mx, .ref mu, .ref mn, .ref mg, .int hf, .int fro, .ref mf, .int (nI fsz), .ref mi, .int (nI isz), .int z2_16, .ref mh, .ref mv, .int (nI ((rs_bld K P seed wN j x1 o1 S9 (P + t1)).2.2.1)), .long ((rs_bld K P seed wN j x1 o1 S9 (P + t1)).2.2.2.1), .long ((rs_bld K P seed wN j x1 o1 S9 (P + t1)).2.2.2.2), .ref ms])), (mk, .inl (cA 0, 4, .inl kf)), (mp, .inl (cA 0, 4, .inl pf)), (me, .inl (cA 0, 4, .inl ef)), (mtb, .inl (cA 0, 52, .inl tbf)), (mx, .inl (cA 0, 256, .inl x1)), (mu, .inl (cA 1, 256, .inr (.inl o1))), (mn, .inl (cA 0, 4, .inl f1)), (mh, .inl (cA 1, 40, .inr (.inl ((rs_bld K P seed wN j x1 o1 S9 (P + t1)).1)))), (mv, .inl (cA 1, 40, .inr (.inl ((rs_bld K P seed wN j x1 o1 S9 (P + t1)).2.1))))] := hD
                    refine lv_aload_n hx hb dX6_resume_256 rfl (lv_at hl 3 rfl) ?_
                    refine va_get (D := (dC, dI)) (ci := 6) (v := .int (nI ((rs_bld K P seed wN j x1 o1 S9 (P + t1)).2.2.1))) (C := RX6) (T := TX6) (N := 25) hx hb hts inX6 hown hK hP 2 rfl rfl 21 (by decide) hk_7 (fun _ h9 => h9) rfl dX6_resume_257 ?_
                    have hP9 := hP.sub (ws' := [(mo, .inr (6, [.ref mw, .int (nI cnt), .ref mk, .ref mp, .ref mz, .ref me, .ref mtb, .ref my, .ref mx, .ref mu, .ref mn, .ref mg, .int hf, .int fro, .ref mf, .int (nI fsz), .ref mi, .int (nI isz), .int z2_16, .ref mh, .ref mv, .int (nI ((rs_bld K P seed wN j x1 o1 S9 (P + t1)).2.2.1)), .long ((rs_bld K P seed wN j x1 o1 S9 (P + t1)).2.2.2.1), .long ((rs_bld K P seed wN j x1 o1 S9 (P + t1)).2.2.2.2), .ref ms])), (mk, .inl (cA 0, 4, .inl kf)), (mp, .inl (cA 0, 4, .inl pf)), (mz, .inl (cA 0, 4, .inl zf)), (me, .inl (cA 0, 4, .inl ef)), (mtb, .inl (cA 0, 52, .inl tbf)), (mx, .inl (cA 0, 256, .inl x1)), (mu, .inl (cA 1, 256, .inr (.inl o1))), (mn, .inl (cA 0, 4, .inl f1)), (mi, .inl (cA 0, 700, .inl imf)), (mh, .inl (cA 1, 40, .inr (.inl ((rs_bld K P seed wN j x1 o1 S9 (P + t1)).1)))), (mv, .inl (cA 1, 40, .inr (.inl ((rs_bld K P seed wN j x1 o1 S9 (P + t1)).2.1))))]) [2, 3, 4, 0, 5, 6, 7, 8, 9, 1, 10, 11] rfl
                    have hD9 := hD.sub (ws' := [(mo, .inr (6, [.ref mw, .int (nI cnt), .ref mk, .ref mp, .ref mz, .ref me, .ref mtb, .ref my, .ref mx, .ref mu, .ref mn, .ref mg, .int hf, .int fro, .ref mf, .int (nI fsz), .ref mi, .int (nI isz), .int z2_16, .ref mh, .ref mv, .int (nI ((rs_bld K P seed wN j x1 o1 S9 (P + t1)).2.2.1)), .long ((rs_bld K P seed wN j x1 o1 S9 (P + t1)).2.2.2.1), .long ((rs_bld K P seed wN j x1 o1 S9 (P + t1)).2.2.2.2), .ref ms])), (mk, .inl (cA 0, 4, .inl kf)), (mp, .inl (cA 0, 4, .inl pf)), (mz, .inl (cA 0, 4, .inl zf)), (me, .inl (cA 0, 4, .inl ef)), (mtb, .inl (cA 0, 52, .inl tbf)), (mx, .inl (cA 0, 256, .inl x1)), (mu, .inl (cA 1, 256, .inr (.inl o1))), (mn, .inl (cA 0, 4, .inl f1)), (mi, .inl (cA 0, 700, .inl imf)), (mh, .inl (cA 1, 40, .inr (.inl ((rs_bld K P seed wN j x1 o1 S9 (P + t1)).1)))), (mv, .inl (cA 1, 40, .inr (.inl ((rs_bld K P seed wN j x1 o1 S9 (P + t1)).2.1))))]) [2, 3, 4, 0, 5, 6, 7, 8, 9, 1, 10, 11] (by decide) rfl
                    have e9_0 : (rs_resl K P seed wN j S imf xsf ouf (hd, vl, rk, lf, lo) n).1 = x1 := (by first | (rw [← ek, ← hX]; done) | (rw [← ek, ← hX, hft]; done))
                    have e9_1 : (rs_resl K P seed wN j S imf xsf ouf (hd, vl, rk, lf, lo) n).2.1 = o1 := (by first | (rw [← ek, ← hX]; done) | (rw [← ek, ← hX, hft]; done))
                    have e9_2 : (upd tkf j (nI (rs_resl K P seed wN j S imf xsf ouf (hd, vl, rk, lf, lo) n).2.2.1)) = f1 := (by first | (rw [← ek, ← hX]; done) | (rw [← ek, ← hX, hft]; done))
                    have e9 : ([(mo, .inr (6, [.ref mw, .int (nI cnt), .ref mk, .ref mp, .ref mz, .ref me, .ref mtb, .ref my, .ref mx, .ref mu, .ref mn, .ref mg, .int hf, .int fro, .ref mf, .int (nI fsz), .ref mi, .int (nI isz), .int z2_16, .ref mh, .ref mv, .int (nI ((rs_bld K P seed wN j x1 o1 S9 (P + t1)).2.2.1)), .long ((rs_bld K P seed wN j x1 o1 S9 (P + t1)).2.2.2.1), .long ((rs_bld K P seed wN j x1 o1 S9 (P + t1)).2.2.2.2), .ref ms])), (mk, .inl (cA 0, 4, .inl kf)), (mp, .inl (cA 0, 4, .inl pf)), (mz, .inl (cA 0, 4, .inl zf)), (me, .inl (cA 0, 4, .inl ef)), (mtb, .inl (cA 0, 52, .inl tbf)), (mx, .inl (cA 0, 256, .inl ((rs_resl K P seed wN j S imf xsf ouf (hd, vl, rk, lf, lo) n).1))), (mu, .inl (cA 1, 256, .inr (.inl ((rs_resl K P seed wN j S imf xsf ouf (hd, vl, rk, lf, lo) n).2.1)))), (mn, .inl (cA 0, 4, .inl (upd tkf j (nI (rs_resl K P seed wN j S imf xsf ouf (hd, vl, rk, lf, lo) n).2.2.1)))), (mi, .inl (cA 0, 700, .inl imf)), (mh, .inl (cA 1, 40, .inr (.inl ((rs_bld K P seed wN j x1 o1 S9 (P + t1)).1)))), (mv, .inl (cA 1, 40, .inr (.inl ((rs_bld K P seed wN j x1 o1 S9 (P + t1)).2.1))))] : va_W) = [(mo, .inr (6, [.ref mw, .int (nI cnt), .ref mk, .ref mp, .ref mz, .ref me, .ref mtb, .ref my, .ref mx, .ref mu, .ref mn, .ref mg, .int hf, .int fro, .ref mf, .int (nI fsz), .ref mi, .int (nI isz), .int z2_16, .ref mh, .ref mv, .int (nI ((rs_bld K P seed wN j x1 o1 S9 (P + t1)).2.2.1)), .long ((rs_bld K P seed wN j x1 o1 S9 (P + t1)).2.2.2.1), .long ((rs_bld K P seed wN j x1 o1 S9 (P + t1)).2.2.2.2), .ref ms])), (mk, .inl (cA 0, 4, .inl kf)), (mp, .inl (cA 0, 4, .inl pf)), (mz, .inl (cA 0, 4, .inl zf)), (me, .inl (cA 0, 4, .inl ef)), (mtb, .inl (cA 0, 52, .inl tbf)), (mx, .inl (cA 0, 256, .inl x1)), (mu, .inl (cA 1, 256, .inr (.inl o1))), (mn, .inl (cA 0, 4, .inl f1)), (mi, .inl (cA 0, 700, .inl imf)), (mh, .inl (cA 1, 40, .inr (.inl ((rs_bld K P seed wN j x1 o1 S9 (P + t1)).1)))), (mv, .inl (cA 1, 40, .inr (.inl ((rs_bld K P seed wN j x1 o1 S9 (P + t1)).2.1))))] := by rw [e9_0, e9_1, e9_2]
                    exact W.iret (v := nI ((rs_bld K P seed wN j x1 o1 S9 (P + t1)).2.2.1)) hx hb hr (fun t9 ht9 hW9 => ⟨⟨nI ((rs_bld K P seed wN j x1 o1 S9 (P + t1)).2.2.1), (z2_16, (rs_bld K P seed wN j x1 o1 S9 (P + t1)).1, (rs_bld K P seed wN j x1 o1 S9 (P + t1)).2.1, ((rs_bld K P seed wN j x1 o1 S9 (P + t1)).2.2.1), (rs_bld K P seed wN j x1 o1 S9 (P + t1)).2.2.2.1, (rs_bld K P seed wN j x1 o1 S9 (P + t1)).2.2.2.2), rfl, (by rw [← ek, ← hX]), by rw [ht9, e9]; exact hP9, by rw [e9]; exact hD9⟩, hS.F ht9⟩) hS.2.2 dX6_resume_260
                  · have c_14 : ¬ ((nI n) ≤ (nI k)) := c_14
                    have hk9 : k < n := (ku_nle (a := n) (b := k) (by omega) (by omega)).mp c_14
                    have hkn : k * (2 + S) + (2 + S) ≤ n * (2 + S) := by have := Nat.mul_le_mul_right (2 + S) hk9; rw [Nat.succ_mul] at this; exact this
                    refine lv_aload_n hx hb dX6_resume_169 rfl (lv_at hl 3 rfl) ?_
                    refine lv_bipush (v := 9) hx hb dX6_resume_170 (by decide) ?_
                    refine lv_iload hx hb dX6_resume_172 (lv_at hl 0 rfl) ?_
                    refine lv_iload_n hx hb dX6_resume_174 rfl (lv_at hl 1 rfl) ?_
                    refine lv_imul hx hb dX6_resume_175 ?_
                    refine kt_i (y := nI (k * (2 + S))) (pk_mul k (2 + S)) ?_
                    refine lv_iadd hx hb dX6_resume_176 ?_
                    refine kt_i (y := nI (9 + (k * (2 + S)))) (nI_add 9 (k * (2 + S))) ?_
                    refine lv_iconst (v := 2) hx hb dX6_resume_177 (by decide) ?_
                    have hPc := hP.sub (ws' := [(mo, .inr (6, [.ref mw, .int (nI cnt), .ref mk, .ref mp, .ref mz, .ref me, .ref mtb, .ref my, .ref mx, .ref mu, .ref mn, .ref mg, .int hf, .int fro, .ref mf, .int (nI fsz), .ref mi, .int (nI isz), .int z1, .ref mh, .ref mv, .int (nI S9.2.2.1), .long S9.2.2.2.1, .long S9.2.2.2.2, .ref ms])), (mi, .inl (cA 0, 700, .inl imf))]) [0, 9] rfl
                    refine kq_csl (va_runV (As := [.int (nI (9 + (k * (2 + S)))), .int (nI 2)]) (rest := []) ⟨hx, hb, hml, hown, hts⟩ (c_M_number l dC dI cA mo mw mk mp mz me mtb my mx mu mn mg mf mi mh mv ms cnt hf fro fsz isz z1 S9.2.2.1 S9.2.2.2.1 S9.2.2.2.2 imf (9 + (k * (2 + S))) 2 (by omega)) (cwV 2 hts (kg_V tb_440 tb_441 tb_442 tb_318 tb_439) rfl rfl rfl (by decide +kernel) ⟨Nat.le_of_ble_eq_true rfl, Nat.le_of_ble_eq_true rfl⟩) (kpv_ro hK hN hPc (ci := 6) (q0 := 0) rfl rfl rfl) rfl rfl hl.1 rfl (lv_room (Nat.le_of_ble_eq_true rfl)) dX6_resume_178 ⟨Nat.le_of_ble_eq_true rfl, Nat.le_of_ble_eq_true rfl⟩) (fun r_17 hr_17 => ?_)
                    refine kt_l (y := rs_num imf (9 + (k * (2 + S))) 2) hr_17 ?_
                    refine lv_l2i (v := (rs_num imf (9 + (k * (2 + S))) 2).toInt32) hx hb dX6_resume_181 rfl ?_
                    refine lv_istore (lv' := [(5, .int ((rs_num imf (9 + (k * (2 + S))) 2).toInt32)), (4, .int (nI k)), (3, .int (nI (2 + S))), (2, .int (nI n)), (0, .ref mo), (1, .int (nI j))]) hx hb dX6_resume_182 hl (by decide) rfl (fun ls hl => ?_)
                    refine lv_aload_n hx hb dX6_resume_184 rfl (lv_at hl 4 rfl) ?_
                    refine lv_bipush (v := 11) hx hb dX6_resume_185 (by decide) ?_
                    refine lv_iload hx hb dX6_resume_187 (lv_at hl 1 rfl) ?_
                    refine lv_iload_n hx hb dX6_resume_189 rfl (lv_at hl 2 rfl) ?_
                    refine lv_imul hx hb dX6_resume_190 ?_
                    refine kt_i (y := nI (k * (2 + S))) (pk_mul k (2 + S)) ?_
                    refine lv_iadd hx hb dX6_resume_191 ?_
                    refine kt_i (y := nI (11 + (k * (2 + S)))) (nI_add 11 (k * (2 + S))) ?_
                    refine lv_aload_n hx hb dX6_resume_192 rfl (lv_at hl 4 rfl) ?_
                    refine va_get (D := (dC, dI)) (ci := 6) (v := .ref mz) (C := RX6) (T := TX6) (N := 25) hx hb hts inX6 hown hK hP 0 rfl rfl 4 (by decide) hk_4 (fun _ h9 => h9) rfl dX6_resume_193 ?_
                    refine lv_iload_n hx hb dX6_resume_196 rfl (lv_at hl 5 rfl) ?_
                    refine va_iald (D := (dC, dI)) hx hb hK hP 3 0 rfl rfl (vp_in_nI hj4 (by omega)) dX6_resume_197 ?_
                    refine kt_i (congrArg zf (nI_clamp (by omega : j < 2 ^ 31))) ?_
                    refine kt_i (y := nI S) hzf ?_
                    have hPc := hP.sub (ws' := [(mo, .inr (6, [.ref mw, .int (nI cnt), .ref mk, .ref mp, .ref mz, .ref me, .ref mtb, .ref my, .ref mx, .ref mu, .ref mn, .ref mg, .int hf, .int fro, .ref mf, .int (nI fsz), .ref mi, .int (nI isz), .int z1, .ref mh, .ref mv, .int (nI S9.2.2.1), .long S9.2.2.2.1, .long S9.2.2.2.2, .ref ms])), (mi, .inl (cA 0, 700, .inl imf))]) [0, 9] rfl
                    refine kq_csl (va_runV (As := [.int (nI (11 + (k * (2 + S)))), .int (nI S)]) (rest := []) ⟨hx, hb, hml, hown, hts⟩ (c_M_number l dC dI cA mo mw mk mp mz me mtb my mx mu mn mg mf mi mh mv ms cnt hf fro fsz isz z1 S9.2.2.1 S9.2.2.2.1 S9.2.2.2.2 imf (11 + (k * (2 + S))) S (by omega)) (cwV 2 hts (kg_V tb_440 tb_441 tb_442 tb_318 tb_439) rfl rfl rfl (by decide +kernel) ⟨Nat.le_of_ble_eq_true rfl, Nat.le_of_ble_eq_true rfl⟩) (kpv_ro hK hN hPc (ci := 6) (q0 := 0) rfl rfl rfl) rfl rfl hl.1 rfl (lv_room (Nat.le_of_ble_eq_true rfl)) dX6_resume_198 ⟨Nat.le_of_ble_eq_true rfl, Nat.le_of_ble_eq_true rfl⟩) (fun r_18 hr_18 => ?_)
                    refine kt_l (y := rs_num imf (11 + (k * (2 + S))) S) hr_18 ?_
                    refine lv_lstore (lv' := [(6, .long (rs_num imf (11 + (k * (2 + S))) S)), (5, .int ((rs_num imf (9 + (k * (2 + S))) 2).toInt32)), (4, .int (nI k)), (3, .int (nI (2 + S))), (2, .int (nI n)), (0, .ref mo), (1, .int (nI j))]) hx hb dX6_resume_201 hl (by decide) rfl (fun ls hl => ?_)
                    refine lv_aload_n hx hb dX6_resume_203 rfl (lv_at hl 5 rfl) ?_
                    refine lv_iload_n hx hb dX6_resume_204 rfl (lv_at hl 6 rfl) ?_
                    refine lv_iload hx hb dX6_resume_205 (lv_at hl 1 rfl) ?_
                    have hPc := hP.sub (ws' := [(mo, .inr (6, [.ref mw, .int (nI cnt), .ref mk, .ref mp, .ref mz, .ref me, .ref mtb, .ref my, .ref mx, .ref mu, .ref mn, .ref mg, .int hf, .int fro, .ref mf, .int (nI fsz), .ref mi, .int (nI isz), .int z1, .ref mh, .ref mv, .int (nI S9.2.2.1), .long S9.2.2.2.1, .long S9.2.2.2.2, .ref ms])), (mx, .inl (cA 0, 256, .inl x1)), (mn, .inl (cA 0, 4, .inl f1))]) [0, 6, 8] rfl
                    refine kq_csi (va_runV (As := [.int (nI j), .int ((rs_num imf (9 + (k * (2 + S))) 2).toInt32)]) (rest := []) ⟨hx, hb, hml, hown, hts⟩ (c_M_wasTaken l dC dI cA mo mw mk mp mz me mtb my mx mu mn mg mf mi mh mv ms cnt hf fro fsz isz z1 S9.2.2.1 S9.2.2.2.1 S9.2.2.2.2 x1 f1 j t1 ((rs_num imf (9 + (k * (2 + S))) 2).toInt32) (by first | assumption | omega) hft1 ht64) (cwV 2 hts (kg_V tb_405 tb_406 tb_407 tb_318 tb_404) rfl rfl rfl (by decide +kernel) ⟨Nat.le_of_ble_eq_true rfl, Nat.le_of_ble_eq_true rfl⟩) (kpv_ro hK hN hPc (ci := 6) (q0 := 0) rfl rfl rfl) rfl rfl hl.1 rfl (lv_room (Nat.le_of_ble_eq_true rfl)) dX6_resume_207 ⟨Nat.le_of_ble_eq_true rfl, Nat.le_of_ble_eq_true rfl⟩) (fun r_19 hr_19 => ?_)
                    refine kt_i (y := rs_was x1 j ((rs_num imf (9 + (k * (2 + S))) 2).toInt32) t1 0) hr_19 ?_
                    refine lv_if_ne (tgt := 245) hx hb dX6_resume_210 (by decide) (fun c_20 => ?_) (fun c_20 => ?_)
                    · have c_20 : ¬ ((rs_was x1 j ((rs_num imf (9 + (k * (2 + S))) 2).toInt32) t1 0) = 0) := c_20
                      refine lv_iinc (v := nI (k + 1)) (lv' := [(4, .int (nI (k + 1))), (6, .long (rs_num imf (11 + (k * (2 + S))) S)), (5, .int ((rs_num imf (9 + (k * (2 + S))) 2).toInt32)), (3, .int (nI (2 + S))), (2, .int (nI n)), (0, .ref mo), (1, .int (nI j))]) hx hb dX6_resume_245 hl (k := 2) rfl (nI_succ _).symm (by decide) rfl (fun ls hl => ?_)
                      refine lv_goto (tgt := 163) hx hb dX6_resume_248 (by decide) ?_
                      have hi_hk : (k + 1) ≤ n := (by omega)
                      have hi_ht64 : t1 ≤ 64 := (by first | exact ht64 | exact h64)
                      have hi_hft : f1 = upd tkf j (nI t1) := (by first | exact hft | (rw [hft]; exact rs_uu _ _ _ _))
                      have hi_hX : (x1, o1, t1, S9) = (rs_resl K P seed wN j S imf xsf ouf (hd, vl, rk, lf, lo) (k + 1)) := (by show _ = rs_res1 K P seed wN j S imf k (rs_resl K P seed wN j S imf xsf ouf (hd, vl, rk, lf, lo) k); rw [← hX]; exact (if_neg c_20).symm)
                      have hl9 : lv_has ls 8 [(4, .int (nI (k + 1))), (3, .int (nI (2 + S))), (2, .int (nI n)), (0, .ref mo), (1, .int (nI j))] := lv_sub hl [0, 3, 4, 5, 6] rfl
                      have hP9 : va_P (dC, dI) vwCl [(mo, .inr (6, [.ref mw, .int (nI cnt), .ref mk, .ref mp, .ref mz, .ref me, .ref mtb, .ref my, .ref mx, .ref mu, .ref mn, .ref mg, .int hf, .int fro, .ref mf, .int (nI fsz), .ref mi, .int (nI isz), .int z1, .ref mh, .ref mv, .int (nI S9.2.2.1), .long S9.2.2.2.1, .long S9.2.2.2.2, .ref ms])), (mk, .inl (cA 0, 4, .inl kf)), (mp, .inl (cA 0, 4, .inl pf)), (mz, .inl (cA 0, 4, .inl zf)), (me, .inl (cA 0, 4, .inl ef)), (mtb, .inl (cA 0, 52, .inl tbf)), (mx, .inl (cA 0, 256, .inl x1)), (mu, .inl (cA 1, 256, .inr (.inl o1))), (mn, .inl (cA 0, 4, .inl f1)), (mi, .inl (cA 0, 700, .inl imf)), (mh, .inl (cA 1, 40, .inr (.inl S9.1))), (mv, .inl (cA 1, 40, .inr (.inl S9.2.1)))] H := hP
                      have hD9 : va_D A [(mo, .inr (6, [.ref mw, .int (nI cnt), .ref mk, .ref mp, .ref mz, .ref me, .ref mtb, .ref my, .ref mx, .ref mu, .ref mn, .ref mg, .int hf, .int fro, .ref mf, .int (nI fsz), .ref mi, .int (nI isz), .int z1, .ref mh, .ref mv, .int (nI S9.2.2.1), .long S9.2.2.2.1, .long S9.2.2.2.2, .ref ms])), (mk, .inl (cA 0, 4, .inl kf)), (mp, .inl (cA 0, 4, .inl pf)), (mz, .inl (cA 0, 4, .inl zf)), (me, .inl (cA 0, 4, .inl ef)), (mtb, .inl (cA 0, 52, .inl tbf)), (mx, .inl (cA 0, 256, .inl x1)), (mu, .inl (cA 1, 256, .inr (.inl o1))), (mn, .inl (cA 0, 4, .inl f1)), (mi, .inl (cA 0, 700, .inl imf)), (mh, .inl (cA 1, 40, .inr (.inl S9.1))), (mv, .inl (cA 1, 40, .inr (.inl S9.2.1)))] := hD
                      exact ih_L0 (k + 1) x1 o1 f1 t1 S9 z1 H locs ls ⟨hi_hk, hi_ht64, hi_hft, hi_hX, hl9, hP9, hD9, hS⟩ (by show n - (k + 1) < n - k; omega)
                    · have c_20 : (rs_was x1 j ((rs_num imf (9 + (k * (2 + S))) 2).toInt32) t1 0) = 0 := c_20
                      refine lv_aload_n hx hb dX6_resume_213 rfl (lv_at hl 5 rfl) ?_
                      refine va_get (D := (dC, dI)) (ci := 6) (v := .ref mn) (C := RX6) (T := TX6) (N := 25) hx hb hts inX6 hown hK hP 0 rfl rfl 10 (by decide) hk_6 (fun _ h9 => h9) rfl dX6_resume_214 ?_
                      refine lv_iload_n hx hb dX6_resume_217 rfl (lv_at hl 6 rfl) ?_
                      refine va_iald (D := (dC, dI)) hx hb hK hP 8 0 rfl rfl (vp_in_nI hj4 (by omega)) dX6_resume_218 ?_
                      refine kt_i (congrArg f1 (nI_clamp (by omega : j < 2 ^ 31))) ?_
                      refine kt_i (y := nI t1) hft1 ?_
                      refine lv_bipush (v := 64) hx hb dX6_resume_219 (by decide) ?_
                      refine lv_icmp_ge (tgt := 245) hx hb dX6_resume_221 (by decide) (fun c_21 => ?_) (fun c_21 => ?_)
                      · have c_21 : 64 ≤ (nI t1) := c_21
                        refine lv_iinc (v := nI (k + 1)) (lv' := [(4, .int (nI (k + 1))), (6, .long (rs_num imf (11 + (k * (2 + S))) S)), (5, .int ((rs_num imf (9 + (k * (2 + S))) 2).toInt32)), (3, .int (nI (2 + S))), (2, .int (nI n)), (0, .ref mo), (1, .int (nI j))]) hx hb dX6_resume_245 hl (k := 2) rfl (nI_succ _).symm (by decide) rfl (fun ls hl => ?_)
                        refine lv_goto (tgt := 163) hx hb dX6_resume_248 (by decide) ?_
                        have hi_hk : (k + 1) ≤ n := (by omega)
                        have hi_ht64 : t1 ≤ 64 := (by first | exact ht64 | exact h64)
                        have hi_hft : f1 = upd tkf j (nI t1) := (by first | exact hft | (rw [hft]; exact rs_uu _ _ _ _))
                        have hi_hX : (x1, o1, t1, S9) = (rs_resl K P seed wN j S imf xsf ouf (hd, vl, rk, lf, lo) (k + 1)) := (by show _ = rs_res1 K P seed wN j S imf k (rs_resl K P seed wN j S imf xsf ouf (hd, vl, rk, lf, lo) k); rw [← hX]; exact ((if_pos c_20).trans (if_pos c_21)).symm)
                        have hl9 : lv_has ls 8 [(4, .int (nI (k + 1))), (3, .int (nI (2 + S))), (2, .int (nI n)), (0, .ref mo), (1, .int (nI j))] := lv_sub hl [0, 3, 4, 5, 6] rfl
                        have hP9 : va_P (dC, dI) vwCl [(mo, .inr (6, [.ref mw, .int (nI cnt), .ref mk, .ref mp, .ref mz, .ref me, .ref mtb, .ref my, .ref mx, .ref mu, .ref mn, .ref mg, .int hf, .int fro, .ref mf, .int (nI fsz), .ref mi, .int (nI isz), .int z1, .ref mh, .ref mv, .int (nI S9.2.2.1), .long S9.2.2.2.1, .long S9.2.2.2.2, .ref ms])), (mk, .inl (cA 0, 4, .inl kf)), (mp, .inl (cA 0, 4, .inl pf)), (mz, .inl (cA 0, 4, .inl zf)), (me, .inl (cA 0, 4, .inl ef)), (mtb, .inl (cA 0, 52, .inl tbf)), (mx, .inl (cA 0, 256, .inl x1)), (mu, .inl (cA 1, 256, .inr (.inl o1))), (mn, .inl (cA 0, 4, .inl f1)), (mi, .inl (cA 0, 700, .inl imf)), (mh, .inl (cA 1, 40, .inr (.inl S9.1))), (mv, .inl (cA 1, 40, .inr (.inl S9.2.1)))] H := hP
                        have hD9 : va_D A [(mo, .inr (6, [.ref mw, .int (nI cnt), .ref mk, .ref mp, .ref mz, .ref me, .ref mtb, .ref my, .ref mx, .ref mu, .ref mn, .ref mg, .int hf, .int fro, .ref mf, .int (nI fsz), .ref mi, .int (nI isz), .int z1, .ref mh, .ref mv, .int (nI S9.2.2.1), .long S9.2.2.2.1, .long S9.2.2.2.2, .ref ms])), (mk, .inl (cA 0, 4, .inl kf)), (mp, .inl (cA 0, 4, .inl pf)), (mz, .inl (cA 0, 4, .inl zf)), (me, .inl (cA 0, 4, .inl ef)), (mtb, .inl (cA 0, 52, .inl tbf)), (mx, .inl (cA 0, 256, .inl x1)), (mu, .inl (cA 1, 256, .inr (.inl o1))), (mn, .inl (cA 0, 4, .inl f1)), (mi, .inl (cA 0, 700, .inl imf)), (mh, .inl (cA 1, 40, .inr (.inl S9.1))), (mv, .inl (cA 1, 40, .inr (.inl S9.2.1)))] := hD
                        exact ih_L0 (k + 1) x1 o1 f1 t1 S9 z1 H locs ls ⟨hi_hk, hi_ht64, hi_hft, hi_hX, hl9, hP9, hD9, hS⟩ (by show n - (k + 1) < n - k; omega)
                      · have c_21 : ¬ (64 ≤ (nI t1)) := c_21
                        have h64 : t1 < 64 := (ku_nle (a := 64) (b := t1) (by omega) (by omega)).mp c_21
                        refine lv_aload_n hx hb dX6_resume_224 rfl (lv_at hl 5 rfl) ?_
                        refine lv_iload_n hx hb dX6_resume_225 rfl (lv_at hl 6 rfl) ?_
                        refine lv_iload hx hb dX6_resume_226 (lv_at hl 1 rfl) ?_
                        refine lv_lload hx hb dX6_resume_228 (lv_at hl 0 rfl) ?_
                        have hPc := hP.sub (ws' := [(mo, .inr (6, [.ref mw, .int (nI cnt), .ref mk, .ref mp, .ref mz, .ref me, .ref mtb, .ref my, .ref mx, .ref mu, .ref mn, .ref mg, .int hf, .int fro, .ref mf, .int (nI fsz), .ref mi, .int (nI isz), .int z1, .ref mh, .ref mv, .int (nI S9.2.2.1), .long S9.2.2.2.1, .long S9.2.2.2.2, .ref ms])), (mk, .inl (cA 0, 4, .inl kf)), (mp, .inl (cA 0, 4, .inl pf)), (me, .inl (cA 0, 4, .inl ef)), (mtb, .inl (cA 0, 52, .inl tbf)), (mx, .inl (cA 0, 256, .inl x1)), (mu, .inl (cA 1, 256, .inr (.inl o1))), (mn, .inl (cA 0, 4, .inl f1)), (mh, .inl (cA 1, 40, .inr (.inl S9.1))), (mv, .inl (cA 1, 40, .inr (.inl S9.2.1)))]) [0, 1, 2, 4, 5, 6, 7, 8, 10, 11] rfl
                        have hDc := hD.sub (ws' := [(mo, .inr (6, [.ref mw, .int (nI cnt), .ref mk, .ref mp, .ref mz, .ref me, .ref mtb, .ref my, .ref mx, .ref mu, .ref mn, .ref mg, .int hf, .int fro, .ref mf, .int (nI fsz), .ref mi, .int (nI isz), .int z1, .ref mh, .ref mv, .int (nI S9.2.2.1), .long S9.2.2.2.1, .long S9.2.2.2.2, .ref ms])), (mk, .inl (cA 0, 4, .inl kf)), (mp, .inl (cA 0, 4, .inl pf)), (me, .inl (cA 0, 4, .inl ef)), (mtb, .inl (cA 0, 52, .inl tbf)), (mx, .inl (cA 0, 256, .inl x1)), (mu, .inl (cA 1, 256, .inr (.inl o1))), (mn, .inl (cA 0, 4, .inl f1)), (mh, .inl (cA 1, 40, .inr (.inl S9.1))), (mv, .inl (cA 1, 40, .inr (.inl S9.2.1)))]) [0, 1, 2, 4, 5, 6, 7, 8, 10, 11] (by decide) rfl
                        have hFc := va_free (wc := [(mo, .inr (6, [.ref mw, .int (nI cnt), .ref mk, .ref mp, .ref mz, .ref me, .ref mtb, .ref my, .ref mx, .ref mu, .ref mn, .ref mg, .int hf, .int fro, .ref mf, .int (nI fsz), .ref mi, .int (nI isz), .int z1, .ref mh, .ref mv, .int (nI S9.2.2.1), .long S9.2.2.2.1, .long S9.2.2.2.2, .ref ms])), (mk, .inl (cA 0, 4, .inl kf)), (mp, .inl (cA 0, 4, .inl pf)), (me, .inl (cA 0, 4, .inl ef)), (mtb, .inl (cA 0, 52, .inl tbf)), (mx, .inl (cA 0, 256, .inl x1)), (mu, .inl (cA 1, 256, .inr (.inl o1))), (mn, .inl (cA 0, 4, .inl f1)), (mh, .inl (cA 1, 40, .inr (.inl S9.1))), (mv, .inl (cA 1, 40, .inr (.inl S9.2.1)))]) hD hS hA [0, 1, 2, 4, 5, 6, 7, 8, 10, 11] rfl
                        refine va_calli (va_runV (As := [.int (nI j), .int ((rs_num imf (9 + (k * (2 + S))) 2).toInt32), .long (rs_num imf (11 + (k * (2 + S))) S)]) (rest := []) ⟨hx, hb, hml, hown, hts⟩ (c_M_isContrary l dC dI cA H.size mo mw mk mp mz me mtb my mx mu mn mg mf mi mh mv ms cnt hf fro fsz isz z1 kf pf ef tbf x1 o1 f1 j K P t1 seed wN S9 ((rs_num imf (9 + (k * (2 + S))) 2).toInt32) (rs_num imf (11 + (k * (2 + S))) S) (by first | assumption | omega) (by first | assumption | omega) (by first | assumption | omega) (by first | assumption | omega) hft1 (by first | assumption | omega) (by first | assumption | omega) (by first | assumption | omega) (by first | assumption | omega) (by first | assumption | omega) (by first | assumption | omega) ht64) (cwV 3 hts (kg_V tb_409 tb_410 tb_411 tb_318 tb_408) rfl rfl rfl (by decide +kernel) ⟨Nat.le_of_ble_eq_true rfl, Nat.le_of_ble_eq_true rfl⟩) (kpv_rw hK hN hPc hDc (ci := 6) (q0 := 0) rfl rfl rfl) rfl rfl hl.1 rfl (lv_room (Nat.le_of_ble_eq_true rfl)) dX6_resume_230 ⟨Nat.le_of_ble_eq_true rfl, Nat.le_of_ble_eq_true rfl⟩) hS (fun q _ h => hFc q h) hFc (fun r_22 u9 t9 H1 locs ht9 hvm9 hr_22 hB hz1 hk1 hS => ?_)
                        obtain ⟨z2_23, rfl⟩ : ∃ z, z = u9 := ⟨_, rfl⟩
                        obtain ⟨hP1, hD1⟩ := hB
                        rw [ht9] at hP1
                        obtain ⟨hP, hD⟩ := va_join (wr := [(mz, .inl (cA 0, 4, .inl zf)), (mi, .inl (cA 0, 700, .inl imf))]) (w1 := [(mo, .inr (6, [.ref mw, .int (nI cnt), .ref mk, .ref mp, .ref mz, .ref me, .ref mtb, .ref my, .ref mx, .ref mu, .ref mn, .ref mg, .int hf, .int fro, .ref mf, .int (nI fsz), .ref mi, .int (nI isz), .int z2_23, .ref mh, .ref mv, .int (nI ((rs_bld K P seed wN j x1 o1 S9 (P + t1)).2.2.1)), .long (rs_red (rs_bld K P seed wN j x1 o1 S9 (P + t1)).1 (rs_row K P seed wN ((rs_num imf (9 + (k * (2 + S))) 2).toInt32)) 40), .long (rs_redv (rs_bld K P seed wN j x1 o1 S9 (P + t1)).1 (rs_bld K P seed wN j x1 o1 S9 (P + t1)).2.1 (rs_row K P seed wN ((rs_num imf (9 + (k * (2 + S))) 2).toInt32)) (rs_num imf (11 + (k * (2 + S))) S) 40), .ref ms])), (mk, .inl (cA 0, 4, .inl kf)), (mp, .inl (cA 0, 4, .inl pf)), (me, .inl (cA 0, 4, .inl ef)), (mtb, .inl (cA 0, 52, .inl tbf)), (mx, .inl (cA 0, 256, .inl x1)), (mu, .inl (cA 1, 256, .inr (.inl o1))), (mn, .inl (cA 0, 4, .inl f1)), (mh, .inl (cA 1, 40, .inr (.inl ((rs_bld K P seed wN j x1 o1 S9 (P + t1)).1)))), (mv, .inl (cA 1, 40, .inr (.inl ((rs_bld K P seed wN j x1 o1 S9 (P + t1)).2.1))))]) hP hD [0, 1, 2, 4, 5, 6, 7, 8, 10, 11] [3, 9] rfl rfl (by decide) (by decide) hk1 hFc hP1 hD1
                        generalize H1 = H at hP hS ⊢
                        have hP : va_P (dC, dI) vwCl [(mz, .inl (cA 0, 4, .inl zf)), (mi, .inl (cA 0, 700, .inl imf)), (mo, .inr (6, [.ref mw, .int (nI cnt), .ref mk, .ref mp, .ref mz, .ref me, .ref mtb, .ref my, .ref mx, .ref mu, .ref mn, .ref mg, .int hf, .int fro, .ref mf, .int (nI fsz), .ref mi, .int (nI isz), .int z2_23, .ref mh, .ref mv, .int (nI ((rs_bld K P seed wN j x1 o1 S9 (P + t1)).2.2.1)), .long (rs_red (rs_bld K P seed wN j x1 o1 S9 (P + t1)).1 (rs_row K P seed wN ((rs_num imf (9 + (k * (2 + S))) 2).toInt32)) 40), .long (rs_redv (rs_bld K P seed wN j x1 o1 S9 (P + t1)).1 (rs_bld K P seed wN j x1 o1 S9 (P + t1)).2.1 (rs_row K P seed wN ((rs_num imf (9 + (k * (2 + S))) 2).toInt32)) (rs_num imf (11 + (k * (2 + S))) S) 40), .ref ms])), (mk, .inl (cA 0, 4, .inl kf)), (mp, .inl (cA 0, 4, .inl pf)), (me, .inl (cA 0, 4, .inl ef)), (mtb, .inl (cA 0, 52, .inl tbf)), (mx, .inl (cA 0, 256, .inl x1)), (mu, .inl (cA 1, 256, .inr (.inl o1))), (mn, .inl (cA 0, 4, .inl f1)), (mh, .inl (cA 1, 40, .inr (.inl ((rs_bld K P seed wN j x1 o1 S9 (P + t1)).1)))), (mv, .inl (cA 1, 40, .inr (.inl ((rs_bld K P seed wN j x1 o1 S9 (P + t1)).2.1))))] H := hP
                        have hD : va_D A [(mz, .inl (cA 0, 4, .inl zf)), (mi, .inl (cA 0, 700, .inl imf)), (mo, .inr (6, [.ref mw, .int (nI cnt), .ref mk, .ref mp, .ref mz, .ref me, .ref mtb, .ref my, .ref mx, .ref mu, .ref mn, .ref mg, .int hf, .int fro, .ref mf, .int (nI fsz), .ref mi, .int (nI isz), .int z2_23, .ref mh, .ref mv, .int (nI ((rs_bld K P seed wN j x1 o1 S9 (P + t1)).2.2.1)), .long (rs_red (rs_bld K P seed wN j x1 o1 S9 (P + t1)).1 (rs_row K P seed wN ((rs_num imf (9 + (k * (2 + S))) 2).toInt32)) 40), .long (rs_redv (rs_bld K P seed wN j x1 o1 S9 (P + t1)).1 (rs_bld K P seed wN j x1 o1 S9 (P + t1)).2.1 (rs_row K P seed wN ((rs_num imf (9 + (k * (2 + S))) 2).toInt32)) (rs_num imf (11 + (k * (2 + S))) S) 40), .ref ms])), (mk, .inl (cA 0, 4, .inl kf)), (mp, .inl (cA 0, 4, .inl pf)), (me, .inl (cA 0, 4, .inl ef)), (mtb, .inl (cA 0, 52, .inl tbf)), (mx, .inl (cA 0, 256, .inl x1)), (mu, .inl (cA 1, 256, .inr (.inl o1))), (mn, .inl (cA 0, 4, .inl f1)), (mh, .inl (cA 1, 40, .inr (.inl ((rs_bld K P seed wN j x1 o1 S9 (P + t1)).1)))), (mv, .inl (cA 1, 40, .inr (.inl ((rs_bld K P seed wN j x1 o1 S9 (P + t1)).2.1))))] := hD
                        refine kt_i (y := rs_contra (rs_bld K P seed wN j x1 o1 S9 (P + t1)) (rs_row K P seed wN ((rs_num imf (9 + (k * (2 + S))) 2).toInt32)) (rs_num imf (11 + (k * (2 + S))) S)) hr_22 ?_
                        refine lv_if_ne (tgt := 245) hx hb dX6_resume_233 (by decide) (fun c_24 => ?_) (fun c_24 => ?_)
                        · have c_24 : ¬ ((rs_contra (rs_bld K P seed wN j x1 o1 S9 (P + t1)) (rs_row K P seed wN ((rs_num imf (9 + (k * (2 + S))) 2).toInt32)) (rs_num imf (11 + (k * (2 + S))) S)) = 0) := c_24
                          refine lv_iinc (v := nI (k + 1)) (lv' := [(4, .int (nI (k + 1))), (6, .long (rs_num imf (11 + (k * (2 + S))) S)), (5, .int ((rs_num imf (9 + (k * (2 + S))) 2).toInt32)), (3, .int (nI (2 + S))), (2, .int (nI n)), (0, .ref mo), (1, .int (nI j))]) hx hb dX6_resume_245 hl (k := 2) rfl (nI_succ _).symm (by decide) rfl (fun ls hl => ?_)
                          refine lv_goto (tgt := 163) hx hb dX6_resume_248 (by decide) ?_
                          have hi_hk : (k + 1) ≤ n := (by omega)
                          have hi_ht64 : t1 ≤ 64 := (by first | exact ht64 | exact h64)
                          have hi_hft : f1 = upd tkf j (nI t1) := (by first | exact hft | (rw [hft]; exact rs_uu _ _ _ _))
                          have hi_hX : (x1, o1, t1, (rs_cS (rs_bld K P seed wN j x1 o1 S9 (P + t1)) (rs_row K P seed wN ((rs_num imf (9 + (k * (2 + S))) 2).toInt32)) (rs_num imf (11 + (k * (2 + S))) S))) = (rs_resl K P seed wN j S imf xsf ouf (hd, vl, rk, lf, lo) (k + 1)) := (by show _ = rs_res1 K P seed wN j S imf k (rs_resl K P seed wN j S imf xsf ouf (hd, vl, rk, lf, lo) k); rw [← hX]; exact (((if_pos c_20).trans (if_neg c_21)).trans (if_neg c_24)).symm)
                          have hl9 : lv_has ls 8 [(4, .int (nI (k + 1))), (3, .int (nI (2 + S))), (2, .int (nI n)), (0, .ref mo), (1, .int (nI j))] := lv_sub hl [0, 3, 4, 5, 6] rfl
                          have hP9 : va_P (dC, dI) vwCl [(mo, .inr (6, [.ref mw, .int (nI cnt), .ref mk, .ref mp, .ref mz, .ref me, .ref mtb, .ref my, .ref mx, .ref mu, .ref mn, .ref mg, .int hf, .int fro, .ref mf, .int (nI fsz), .ref mi, .int (nI isz), .int z2_23, .ref mh, .ref mv, .int (nI (rs_cS (rs_bld K P seed wN j x1 o1 S9 (P + t1)) (rs_row K P seed wN ((rs_num imf (9 + (k * (2 + S))) 2).toInt32)) (rs_num imf (11 + (k * (2 + S))) S)).2.2.1), .long ((rs_cS (rs_bld K P seed wN j x1 o1 S9 (P + t1)) (rs_row K P seed wN ((rs_num imf (9 + (k * (2 + S))) 2).toInt32)) (rs_num imf (11 + (k * (2 + S))) S)).2.2.2.1), .long ((rs_cS (rs_bld K P seed wN j x1 o1 S9 (P + t1)) (rs_row K P seed wN ((rs_num imf (9 + (k * (2 + S))) 2).toInt32)) (rs_num imf (11 + (k * (2 + S))) S)).2.2.2.2), .ref ms])), (mk, .inl (cA 0, 4, .inl kf)), (mp, .inl (cA 0, 4, .inl pf)), (mz, .inl (cA 0, 4, .inl zf)), (me, .inl (cA 0, 4, .inl ef)), (mtb, .inl (cA 0, 52, .inl tbf)), (mx, .inl (cA 0, 256, .inl x1)), (mu, .inl (cA 1, 256, .inr (.inl o1))), (mn, .inl (cA 0, 4, .inl f1)), (mi, .inl (cA 0, 700, .inl imf)), (mh, .inl (cA 1, 40, .inr (.inl ((rs_cS (rs_bld K P seed wN j x1 o1 S9 (P + t1)) (rs_row K P seed wN ((rs_num imf (9 + (k * (2 + S))) 2).toInt32)) (rs_num imf (11 + (k * (2 + S))) S)).1)))), (mv, .inl (cA 1, 40, .inr (.inl ((rs_cS (rs_bld K P seed wN j x1 o1 S9 (P + t1)) (rs_row K P seed wN ((rs_num imf (9 + (k * (2 + S))) 2).toInt32)) (rs_num imf (11 + (k * (2 + S))) S)).2.1))))] H := hP.sub [2, 3, 4, 0, 5, 6, 7, 8, 9, 1, 10, 11] rfl
                          have hD9 : va_D A [(mo, .inr (6, [.ref mw, .int (nI cnt), .ref mk, .ref mp, .ref mz, .ref me, .ref mtb, .ref my, .ref mx, .ref mu, .ref mn, .ref mg, .int hf, .int fro, .ref mf, .int (nI fsz), .ref mi, .int (nI isz), .int z2_23, .ref mh, .ref mv, .int (nI (rs_cS (rs_bld K P seed wN j x1 o1 S9 (P + t1)) (rs_row K P seed wN ((rs_num imf (9 + (k * (2 + S))) 2).toInt32)) (rs_num imf (11 + (k * (2 + S))) S)).2.2.1), .long ((rs_cS (rs_bld K P seed wN j x1 o1 S9 (P + t1)) (rs_row K P seed wN ((rs_num imf (9 + (k * (2 + S))) 2).toInt32)) (rs_num imf (11 + (k * (2 + S))) S)).2.2.2.1), .long ((rs_cS (rs_bld K P seed wN j x1 o1 S9 (P + t1)) (rs_row K P seed wN ((rs_num imf (9 + (k * (2 + S))) 2).toInt32)) (rs_num imf (11 + (k * (2 + S))) S)).2.2.2.2), .ref ms])), (mk, .inl (cA 0, 4, .inl kf)), (mp, .inl (cA 0, 4, .inl pf)), (mz, .inl (cA 0, 4, .inl zf)), (me, .inl (cA 0, 4, .inl ef)), (mtb, .inl (cA 0, 52, .inl tbf)), (mx, .inl (cA 0, 256, .inl x1)), (mu, .inl (cA 1, 256, .inr (.inl o1))), (mn, .inl (cA 0, 4, .inl f1)), (mi, .inl (cA 0, 700, .inl imf)), (mh, .inl (cA 1, 40, .inr (.inl ((rs_cS (rs_bld K P seed wN j x1 o1 S9 (P + t1)) (rs_row K P seed wN ((rs_num imf (9 + (k * (2 + S))) 2).toInt32)) (rs_num imf (11 + (k * (2 + S))) S)).1)))), (mv, .inl (cA 1, 40, .inr (.inl ((rs_cS (rs_bld K P seed wN j x1 o1 S9 (P + t1)) (rs_row K P seed wN ((rs_num imf (9 + (k * (2 + S))) 2).toInt32)) (rs_num imf (11 + (k * (2 + S))) S)).2.1))))] := hD.sub [2, 3, 4, 0, 5, 6, 7, 8, 9, 1, 10, 11] (by decide) rfl
                          exact ih_L0 (k + 1) x1 o1 f1 t1 (rs_cS (rs_bld K P seed wN j x1 o1 S9 (P + t1)) (rs_row K P seed wN ((rs_num imf (9 + (k * (2 + S))) 2).toInt32)) (rs_num imf (11 + (k * (2 + S))) S)) z2_23 H locs ls ⟨hi_hk, hi_ht64, hi_hft, hi_hX, hl9, hP9, hD9, hS⟩ (by show n - (k + 1) < n - k; omega)
                        · have c_24 : (rs_contra (rs_bld K P seed wN j x1 o1 S9 (P + t1)) (rs_row K P seed wN ((rs_num imf (9 + (k * (2 + S))) 2).toInt32)) (rs_num imf (11 + (k * (2 + S))) S)) = 0 := c_24
                          refine lv_aload_n hx hb dX6_resume_236 rfl (lv_at hl 5 rfl) ?_
                          refine lv_iload_n hx hb dX6_resume_237 rfl (lv_at hl 6 rfl) ?_
                          refine lv_iload hx hb dX6_resume_238 (lv_at hl 1 rfl) ?_
                          refine lv_lload hx hb dX6_resume_240 (lv_at hl 0 rfl) ?_
                          have hPc := hP.sub (ws' := [(mo, .inr (6, [.ref mw, .int (nI cnt), .ref mk, .ref mp, .ref mz, .ref me, .ref mtb, .ref my, .ref mx, .ref mu, .ref mn, .ref mg, .int hf, .int fro, .ref mf, .int (nI fsz), .ref mi, .int (nI isz), .int z2_23, .ref mh, .ref mv, .int (nI ((rs_bld K P seed wN j x1 o1 S9 (P + t1)).2.2.1)), .long (rs_red (rs_bld K P seed wN j x1 o1 S9 (P + t1)).1 (rs_row K P seed wN ((rs_num imf (9 + (k * (2 + S))) 2).toInt32)) 40), .long (rs_redv (rs_bld K P seed wN j x1 o1 S9 (P + t1)).1 (rs_bld K P seed wN j x1 o1 S9 (P + t1)).2.1 (rs_row K P seed wN ((rs_num imf (9 + (k * (2 + S))) 2).toInt32)) (rs_num imf (11 + (k * (2 + S))) S) 40), .ref ms])), (mx, .inl (cA 0, 256, .inl x1)), (mu, .inl (cA 1, 256, .inr (.inl o1))), (mn, .inl (cA 0, 4, .inl f1))]) [2, 7, 8, 9] rfl
                          have hDc := hD.sub (ws' := [(mo, .inr (6, [.ref mw, .int (nI cnt), .ref mk, .ref mp, .ref mz, .ref me, .ref mtb, .ref my, .ref mx, .ref mu, .ref mn, .ref mg, .int hf, .int fro, .ref mf, .int (nI fsz), .ref mi, .int (nI isz), .int z2_23, .ref mh, .ref mv, .int (nI ((rs_bld K P seed wN j x1 o1 S9 (P + t1)).2.2.1)), .long (rs_red (rs_bld K P seed wN j x1 o1 S9 (P + t1)).1 (rs_row K P seed wN ((rs_num imf (9 + (k * (2 + S))) 2).toInt32)) 40), .long (rs_redv (rs_bld K P seed wN j x1 o1 S9 (P + t1)).1 (rs_bld K P seed wN j x1 o1 S9 (P + t1)).2.1 (rs_row K P seed wN ((rs_num imf (9 + (k * (2 + S))) 2).toInt32)) (rs_num imf (11 + (k * (2 + S))) S) 40), .ref ms])), (mx, .inl (cA 0, 256, .inl x1)), (mu, .inl (cA 1, 256, .inr (.inl o1))), (mn, .inl (cA 0, 4, .inl f1))]) [2, 7, 8, 9] (by decide) rfl
                          have hFc := va_free (wc := [(mo, .inr (6, [.ref mw, .int (nI cnt), .ref mk, .ref mp, .ref mz, .ref me, .ref mtb, .ref my, .ref mx, .ref mu, .ref mn, .ref mg, .int hf, .int fro, .ref mf, .int (nI fsz), .ref mi, .int (nI isz), .int z2_23, .ref mh, .ref mv, .int (nI ((rs_bld K P seed wN j x1 o1 S9 (P + t1)).2.2.1)), .long (rs_red (rs_bld K P seed wN j x1 o1 S9 (P + t1)).1 (rs_row K P seed wN ((rs_num imf (9 + (k * (2 + S))) 2).toInt32)) 40), .long (rs_redv (rs_bld K P seed wN j x1 o1 S9 (P + t1)).1 (rs_bld K P seed wN j x1 o1 S9 (P + t1)).2.1 (rs_row K P seed wN ((rs_num imf (9 + (k * (2 + S))) 2).toInt32)) (rs_num imf (11 + (k * (2 + S))) S) 40), .ref ms])), (mx, .inl (cA 0, 256, .inl x1)), (mu, .inl (cA 1, 256, .inr (.inl o1))), (mn, .inl (cA 0, 4, .inl f1))]) hD hS hA [2, 7, 8, 9] rfl
                          refine va_callv (va_runV (As := [.int (nI j), .int ((rs_num imf (9 + (k * (2 + S))) 2).toInt32), .long (rs_num imf (11 + (k * (2 + S))) S)]) (rest := []) ⟨hx, hb, hml, hown, hts⟩ (c_M_keep l dC dI cA H.size mo mw mk mp mz me mtb my mx mu mn mg mf mi mh mv ms cnt hf fro fsz isz z2_23 ((rs_bld K P seed wN j x1 o1 S9 (P + t1)).2.2.1) (rs_red (rs_bld K P seed wN j x1 o1 S9 (P + t1)).1 (rs_row K P seed wN ((rs_num imf (9 + (k * (2 + S))) 2).toInt32)) 40) (rs_redv (rs_bld K P seed wN j x1 o1 S9 (P + t1)).1 (rs_bld K P seed wN j x1 o1 S9 (P + t1)).2.1 (rs_row K P seed wN ((rs_num imf (9 + (k * (2 + S))) 2).toInt32)) (rs_num imf (11 + (k * (2 + S))) S) 40) x1 o1 f1 j t1 ((rs_num imf (9 + (k * (2 + S))) 2).toInt32) (rs_num imf (11 + (k * (2 + S))) S) (by first | assumption | omega) hft1 h64) (cwV 3 hts (kg_V tb_413 tb_414 tb_415 tb_318 tb_412) rfl rfl rfl (by decide +kernel) ⟨Nat.le_of_ble_eq_true rfl, Nat.le_of_ble_eq_true rfl⟩) (kpv_rw hK hN hPc hDc (ci := 6) (q0 := 0) rfl rfl rfl) rfl rfl hl.1 rfl (lv_room (Nat.le_of_ble_eq_true rfl)) dX6_resume_242 ⟨Nat.le_of_ble_eq_true rfl, Nat.le_of_ble_eq_true rfl⟩) hS (fun q _ h => hFc q h) hFc (fun u9 t9 H1 locs ht9 hvm9 hr_25 hB hz1 hk1 hS => ?_)
                          obtain ⟨hP1, hD1⟩ := hB
                          rw [ht9] at hP1
                          obtain ⟨hP, hD⟩ := va_join (wr := [(mz, .inl (cA 0, 4, .inl zf)), (mi, .inl (cA 0, 700, .inl imf)), (mk, .inl (cA 0, 4, .inl kf)), (mp, .inl (cA 0, 4, .inl pf)), (me, .inl (cA 0, 4, .inl ef)), (mtb, .inl (cA 0, 52, .inl tbf)), (mh, .inl (cA 1, 40, .inr (.inl ((rs_bld K P seed wN j x1 o1 S9 (P + t1)).1)))), (mv, .inl (cA 1, 40, .inr (.inl ((rs_bld K P seed wN j x1 o1 S9 (P + t1)).2.1))))]) (w1 := [(mo, .inr (6, [.ref mw, .int (nI cnt), .ref mk, .ref mp, .ref mz, .ref me, .ref mtb, .ref my, .ref mx, .ref mu, .ref mn, .ref mg, .int hf, .int fro, .ref mf, .int (nI fsz), .ref mi, .int (nI isz), .int z2_23, .ref mh, .ref mv, .int (nI ((rs_bld K P seed wN j x1 o1 S9 (P + t1)).2.2.1)), .long (rs_red (rs_bld K P seed wN j x1 o1 S9 (P + t1)).1 (rs_row K P seed wN ((rs_num imf (9 + (k * (2 + S))) 2).toInt32)) 40), .long (rs_redv (rs_bld K P seed wN j x1 o1 S9 (P + t1)).1 (rs_bld K P seed wN j x1 o1 S9 (P + t1)).2.1 (rs_row K P seed wN ((rs_num imf (9 + (k * (2 + S))) 2).toInt32)) (rs_num imf (11 + (k * (2 + S))) S) 40), .ref ms])), (mx, .inl (cA 0, 256, .inl (upd x1 (64 * j + t1) ((rs_num imf (9 + (k * (2 + S))) 2).toInt32)))), (mu, .inl (cA 1, 256, .inr (.inl (vp_updL o1 (64 * j + t1) (rs_num imf (11 + (k * (2 + S))) S))))), (mn, .inl (cA 0, 4, .inl (upd f1 j (nI (t1 + 1)))))]) hP hD [2, 7, 8, 9] [0, 1, 3, 4, 5, 6, 10, 11] rfl rfl (by decide) (by decide) hk1 hFc hP1 hD1
                          generalize H1 = H at hP hS ⊢
                          have hP : va_P (dC, dI) vwCl [(mz, .inl (cA 0, 4, .inl zf)), (mi, .inl (cA 0, 700, .inl imf)), (mk, .inl (cA 0, 4, .inl kf)), (mp, .inl (cA 0, 4, .inl pf)), (me, .inl (cA 0, 4, .inl ef)), (mtb, .inl (cA 0, 52, .inl tbf)), (mh, .inl (cA 1, 40, .inr (.inl ((rs_bld K P seed wN j x1 o1 S9 (P + t1)).1)))), (mv, .inl (cA 1, 40, .inr (.inl ((rs_bld K P seed wN j x1 o1 S9 (P + t1)).2.1)))), (mo, .inr (6, [.ref mw, .int (nI cnt), .ref mk, .ref mp, .ref mz, .ref me, .ref mtb, .ref my, .ref mx, .ref mu, .ref mn, .ref mg, .int hf, .int fro, .ref mf, .int (nI fsz), .ref mi, .int (nI isz), .int z2_23, .ref mh, .ref mv, .int (nI ((rs_bld K P seed wN j x1 o1 S9 (P + t1)).2.2.1)), .long (rs_red (rs_bld K P seed wN j x1 o1 S9 (P + t1)).1 (rs_row K P seed wN ((rs_num imf (9 + (k * (2 + S))) 2).toInt32)) 40), .long (rs_redv (rs_bld K P seed wN j x1 o1 S9 (P + t1)).1 (rs_bld K P seed wN j x1 o1 S9 (P + t1)).2.1 (rs_row K P seed wN ((rs_num imf (9 + (k * (2 + S))) 2).toInt32)) (rs_num imf (11 + (k * (2 + S))) S) 40), .ref ms])), (mx, .inl (cA 0, 256, .inl (upd x1 (64 * j + t1) ((rs_num imf (9 + (k * (2 + S))) 2).toInt32)))), (mu, .inl (cA 1, 256, .inr (.inl (vp_updL o1 (64 * j + t1) (rs_num imf (11 + (k * (2 + S))) S))))), (mn, .inl (cA 0, 4, .inl (upd f1 j (nI (t1 + 1)))))] H := hP
                          have hD : va_D A [(mz, .inl (cA 0, 4, .inl zf)), (mi, .inl (cA 0, 700, .inl imf)), (mk, .inl (cA 0, 4, .inl kf)), (mp, .inl (cA 0, 4, .inl pf)), (me, .inl (cA 0, 4, .inl ef)), (mtb, .inl (cA 0, 52, .inl tbf)), (mh, .inl (cA 1, 40, .inr (.inl ((rs_bld K P seed wN j x1 o1 S9 (P + t1)).1)))), (mv, .inl (cA 1, 40, .inr (.inl ((rs_bld K P seed wN j x1 o1 S9 (P + t1)).2.1)))), (mo, .inr (6, [.ref mw, .int (nI cnt), .ref mk, .ref mp, .ref mz, .ref me, .ref mtb, .ref my, .ref mx, .ref mu, .ref mn, .ref mg, .int hf, .int fro, .ref mf, .int (nI fsz), .ref mi, .int (nI isz), .int z2_23, .ref mh, .ref mv, .int (nI ((rs_bld K P seed wN j x1 o1 S9 (P + t1)).2.2.1)), .long (rs_red (rs_bld K P seed wN j x1 o1 S9 (P + t1)).1 (rs_row K P seed wN ((rs_num imf (9 + (k * (2 + S))) 2).toInt32)) 40), .long (rs_redv (rs_bld K P seed wN j x1 o1 S9 (P + t1)).1 (rs_bld K P seed wN j x1 o1 S9 (P + t1)).2.1 (rs_row K P seed wN ((rs_num imf (9 + (k * (2 + S))) 2).toInt32)) (rs_num imf (11 + (k * (2 + S))) S) 40), .ref ms])), (mx, .inl (cA 0, 256, .inl (upd x1 (64 * j + t1) ((rs_num imf (9 + (k * (2 + S))) 2).toInt32)))), (mu, .inl (cA 1, 256, .inr (.inl (vp_updL o1 (64 * j + t1) (rs_num imf (11 + (k * (2 + S))) S))))), (mn, .inl (cA 0, 4, .inl (upd f1 j (nI (t1 + 1)))))] := hD
                          refine lv_iinc (v := nI (k + 1)) (lv' := [(4, .int (nI (k + 1))), (6, .long (rs_num imf (11 + (k * (2 + S))) S)), (5, .int ((rs_num imf (9 + (k * (2 + S))) 2).toInt32)), (3, .int (nI (2 + S))), (2, .int (nI n)), (0, .ref mo), (1, .int (nI j))]) hx hb dX6_resume_245 hl (k := 2) rfl (nI_succ _).symm (by decide) rfl (fun ls hl => ?_)
                          refine lv_goto (tgt := 163) hx hb dX6_resume_248 (by decide) ?_
                          have hi_hk : (k + 1) ≤ n := (by omega)
                          have hi_ht64 : (t1 + 1) ≤ 64 := (by first | exact ht64 | exact h64)
                          have hi_hft : (upd f1 j (nI (t1 + 1))) = upd tkf j (nI (t1 + 1)) := (by first | exact hft | (rw [hft]; exact rs_uu _ _ _ _))
                          have hi_hX : ((upd x1 (64 * j + t1) ((rs_num imf (9 + (k * (2 + S))) 2).toInt32)), (vp_updL o1 (64 * j + t1) (rs_num imf (11 + (k * (2 + S))) S)), (t1 + 1), (rs_cS (rs_bld K P seed wN j x1 o1 S9 (P + t1)) (rs_row K P seed wN ((rs_num imf (9 + (k * (2 + S))) 2).toInt32)) (rs_num imf (11 + (k * (2 + S))) S))) = (rs_resl K P seed wN j S imf xsf ouf (hd, vl, rk, lf, lo) (k + 1)) := (by show _ = rs_res1 K P seed wN j S imf k (rs_resl K P seed wN j S imf xsf ouf (hd, vl, rk, lf, lo) k); rw [← hX]; exact (((if_pos c_20).trans (if_neg c_21)).trans (if_pos c_24)).symm)
                          have hl9 : lv_has ls 8 [(4, .int (nI (k + 1))), (3, .int (nI (2 + S))), (2, .int (nI n)), (0, .ref mo), (1, .int (nI j))] := lv_sub hl [0, 3, 4, 5, 6] rfl
                          have hP9 : va_P (dC, dI) vwCl [(mo, .inr (6, [.ref mw, .int (nI cnt), .ref mk, .ref mp, .ref mz, .ref me, .ref mtb, .ref my, .ref mx, .ref mu, .ref mn, .ref mg, .int hf, .int fro, .ref mf, .int (nI fsz), .ref mi, .int (nI isz), .int z2_23, .ref mh, .ref mv, .int (nI (rs_cS (rs_bld K P seed wN j x1 o1 S9 (P + t1)) (rs_row K P seed wN ((rs_num imf (9 + (k * (2 + S))) 2).toInt32)) (rs_num imf (11 + (k * (2 + S))) S)).2.2.1), .long ((rs_cS (rs_bld K P seed wN j x1 o1 S9 (P + t1)) (rs_row K P seed wN ((rs_num imf (9 + (k * (2 + S))) 2).toInt32)) (rs_num imf (11 + (k * (2 + S))) S)).2.2.2.1), .long ((rs_cS (rs_bld K P seed wN j x1 o1 S9 (P + t1)) (rs_row K P seed wN ((rs_num imf (9 + (k * (2 + S))) 2).toInt32)) (rs_num imf (11 + (k * (2 + S))) S)).2.2.2.2), .ref ms])), (mk, .inl (cA 0, 4, .inl kf)), (mp, .inl (cA 0, 4, .inl pf)), (mz, .inl (cA 0, 4, .inl zf)), (me, .inl (cA 0, 4, .inl ef)), (mtb, .inl (cA 0, 52, .inl tbf)), (mx, .inl (cA 0, 256, .inl (upd x1 (64 * j + t1) ((rs_num imf (9 + (k * (2 + S))) 2).toInt32)))), (mu, .inl (cA 1, 256, .inr (.inl (vp_updL o1 (64 * j + t1) (rs_num imf (11 + (k * (2 + S))) S))))), (mn, .inl (cA 0, 4, .inl (upd f1 j (nI (t1 + 1))))), (mi, .inl (cA 0, 700, .inl imf)), (mh, .inl (cA 1, 40, .inr (.inl ((rs_cS (rs_bld K P seed wN j x1 o1 S9 (P + t1)) (rs_row K P seed wN ((rs_num imf (9 + (k * (2 + S))) 2).toInt32)) (rs_num imf (11 + (k * (2 + S))) S)).1)))), (mv, .inl (cA 1, 40, .inr (.inl ((rs_cS (rs_bld K P seed wN j x1 o1 S9 (P + t1)) (rs_row K P seed wN ((rs_num imf (9 + (k * (2 + S))) 2).toInt32)) (rs_num imf (11 + (k * (2 + S))) S)).2.1))))] H := hP.sub [8, 2, 3, 0, 4, 5, 9, 10, 11, 1, 6, 7] rfl
                          have hD9 : va_D A [(mo, .inr (6, [.ref mw, .int (nI cnt), .ref mk, .ref mp, .ref mz, .ref me, .ref mtb, .ref my, .ref mx, .ref mu, .ref mn, .ref mg, .int hf, .int fro, .ref mf, .int (nI fsz), .ref mi, .int (nI isz), .int z2_23, .ref mh, .ref mv, .int (nI (rs_cS (rs_bld K P seed wN j x1 o1 S9 (P + t1)) (rs_row K P seed wN ((rs_num imf (9 + (k * (2 + S))) 2).toInt32)) (rs_num imf (11 + (k * (2 + S))) S)).2.2.1), .long ((rs_cS (rs_bld K P seed wN j x1 o1 S9 (P + t1)) (rs_row K P seed wN ((rs_num imf (9 + (k * (2 + S))) 2).toInt32)) (rs_num imf (11 + (k * (2 + S))) S)).2.2.2.1), .long ((rs_cS (rs_bld K P seed wN j x1 o1 S9 (P + t1)) (rs_row K P seed wN ((rs_num imf (9 + (k * (2 + S))) 2).toInt32)) (rs_num imf (11 + (k * (2 + S))) S)).2.2.2.2), .ref ms])), (mk, .inl (cA 0, 4, .inl kf)), (mp, .inl (cA 0, 4, .inl pf)), (mz, .inl (cA 0, 4, .inl zf)), (me, .inl (cA 0, 4, .inl ef)), (mtb, .inl (cA 0, 52, .inl tbf)), (mx, .inl (cA 0, 256, .inl (upd x1 (64 * j + t1) ((rs_num imf (9 + (k * (2 + S))) 2).toInt32)))), (mu, .inl (cA 1, 256, .inr (.inl (vp_updL o1 (64 * j + t1) (rs_num imf (11 + (k * (2 + S))) S))))), (mn, .inl (cA 0, 4, .inl (upd f1 j (nI (t1 + 1))))), (mi, .inl (cA 0, 700, .inl imf)), (mh, .inl (cA 1, 40, .inr (.inl ((rs_cS (rs_bld K P seed wN j x1 o1 S9 (P + t1)) (rs_row K P seed wN ((rs_num imf (9 + (k * (2 + S))) 2).toInt32)) (rs_num imf (11 + (k * (2 + S))) S)).1)))), (mv, .inl (cA 1, 40, .inr (.inl ((rs_cS (rs_bld K P seed wN j x1 o1 S9 (P + t1)) (rs_row K P seed wN ((rs_num imf (9 + (k * (2 + S))) 2).toInt32)) (rs_num imf (11 + (k * (2 + S))) S)).2.1))))] := hD.sub [8, 2, 3, 0, 4, 5, 9, 10, 11, 1, 6, 7] (by decide) rfl
                          exact ih_L0 (k + 1) (upd x1 (64 * j + t1) ((rs_num imf (9 + (k * (2 + S))) 2).toInt32)) (vp_updL o1 (64 * j + t1) (rs_num imf (11 + (k * (2 + S))) S)) (upd f1 j (nI (t1 + 1))) (t1 + 1) (rs_cS (rs_bld K P seed wN j x1 o1 S9 (P + t1)) (rs_row K P seed wN ((rs_num imf (9 + (k * (2 + S))) 2).toInt32)) (rs_num imf (11 + (k * (2 + S))) S)) z2_23 H locs ls ⟨hi_hk, hi_ht64, hi_hft, hi_hX, hl9, hP9, hD9, hS⟩ (by show n - (k + 1) < n - k; omega)
                · have c_13 : ¬ ((lg_cmp (rs_num imf (isz - 2) 2) ((rs_crc imf (isz - 2)).toInt64)) = 0) := c_13
                  exact absurd e6 c_13
              · have c_10 : ¬ ((nI isz) = (nI (11 + (n * (2 + S))))) := c_10
                exact absurd (congrArg nI e5) c_10
            · have c_8 : ¬ (((rs_num imf 3 4).toInt32) = seed) := c_8
              exact absurd e3 c_8
    · have c_3 : ¬ (11 ≤ (nI isz)) := c_3
      exact absurd (nI_le (a := 11) (b := isz) (by omega) (by omega)) c_3
  · have c_2 : (sp_has cnt (nI j)) = 0 := c_2
    exact absurd c_2 (sp_has_nI hjc (by omega))
