set_option maxHeartbeats 4000000 in
set_option maxRecDepth 100000 in
theorem law_loop {p : Program} {l : Launch} {e : Env} {s : State} {m : MethodId} {below : List Frame} {meth : Method} {c : Code} {dC : Nat → ClassId} {dI : Nat → Nat → Nat} {cA : Nat → ClassId} {b L : Nat} {xs : Nat → Int32} {A : Nat → Prop} (hL : L ≤ 2560) (C0 : lw_At p s m meth c b L xs) (hA : ∀ q : Nat, s.heap.size ≤ q → A q) (hbA : ¬ A b) (hK : va_K (dC, dI) vwCl (TY cA) s) (hN : kNW s) (hA2 : ∀ q : Nat, A q → s.heap.size ≤ q) : ∀ (n i nc ns : Nat) (H : Heap) (locs : List Loc) (ls : Array Slot), i ≤ L → L + 1 ≤ i + n → LInv dC dI cA A s b i nc ns H locs ls → W p l e room_1 s m #[Value.ref b] below meth c H locs nc ns (lw_Z below #[Value.ref b] s) (F0 m 18 ls []) := by
  intro n
  induction n with
  | zero =>
    intro i nc ns H locs ls h1 h2
    exact absurd h2 (by omega)
  | succ n ih =>
    intro i nc ns H locs ls hiL hin hI
    obtain ⟨hx, hb, hr, hml, hown, hts0, hX, hbl, hlocks, hgv⟩ := id C0
    have bk : ∀ (nc ns : Nat) (H : Heap) (locs : List Loc) (ls : Array Slot), i + 5 ≤ L → LInv dC dI cA A s b i nc ns H locs ls → W p l e room_1 s m #[Value.ref b] below meth c H locs nc ns (lw_Z below #[Value.ref b] s) (F0 m 799 ls []) := by
      intro nc ns H locs ls hi5 hI
      obtain ⟨fo, wta, soa, rea, fb, fca, ib, ica, fs, flen, wt, ff, fi, fS, fR, mo, mw, mk, mp, mz, me, mtb, my, mx, mu, mn, mg, mf, mi, mh, mv, ms, hf, fro, z, fsz, isz, rk, lf, lo, wm, kf, pf, zf, ef, tbf, syf, xsf, ouf, tkf, wrf, frf, imf, hd, vl, sts, cnt, us, wD, hus, hcnt, hnc, hns, hRW, hRA, hF, hisz, hRB, hl, hP, hD, hS⟩ := hI
      refine lv_iinc (v := nI (i + 5)) (lv' := [(3, .int (nI (i + 5))), (0, .ref b), (1, .ref fo), (2, .ref mo)]) hx hb dL_law_799 hl (k := 3) rfl (by rw [show Int32.ofInt 5 = nI 5 from by decide]; exact nI_add i 5) (by decide) rfl (fun ls hl => ?_)
      refine lv_goto (tgt := 18) hx hb dL_law_802 (by decide) ?_
      exact ih (i + 5) nc ns H locs ls hi5 (by omega) ⟨fo, wta, soa, rea, fb, fca, ib, ica, fs, flen, wt, ff, fi, fS, fR, mo, mw, mk, mp, mz, me, mtb, my, mx, mu, mn, mg, mf, mi, mh, mv, ms, hf, fro, z, fsz, isz, rk, lf, lo, wm, kf, pf, zf, ef, tbf, syf, xsf, ouf, tkf, wrf, frf, imf, hd, vl, sts, cnt, us, wD, hus, hcnt, hnc, hns, hRW, hRA, hF, hisz, hRB, (lv_sub hl [1, 2, 3, 0] rfl), hP, hD, hS⟩
    obtain ⟨fo, wta, soa, rea, fb, fca, ib, ica, fs, flen, wt, ff, fi, fS, fR, mo, mw, mk, mp, mz, me, mtb, my, mx, mu, mn, mg, mf, mi, mh, mv, ms, hf, fro, z, fsz, isz, rk, lf, lo, wm, kf, pf, zf, ef, tbf, syf, xsf, ouf, tkf, wrf, frf, imf, hd, vl, sts, cnt, us, wD, hus, hcnt, hnc, hns, hRW, hRA, hF, hisz, hRB, hl, hP, hD, hS⟩ := id hI
    refine lv_iload_n hx hb dL_law_18 rfl (lv_at hl 3 rfl) ?_
    refine lv_aload_n hx hb dL_law_19 rfl (lv_at hl 0 rfl) ?_
    refine va_slen hx hb hX hbl hbA hS dL_law_20 ?_
    refine lv_iconst (v := 5) hx hb dL_law_21 (by decide) ?_
    refine lv_isub hx hb dL_law_22 ?_
    refine lv_icmp_gt (tgt := 805) hx hb dL_law_23 (by decide) (fun c_1 => ?_) (fun c_1 => ?_)
    · refine lv_iconst (v := 1) hx hb dL_law_805 (by decide) ?_
      refine va_forget (fun q hq => hA2 _ (hS.2.2 q hq)) ?_
      refine W.widen (k := 600000) (n := 7302250) (by omega) (by omega) ?_
      exact lw_ret hx hb hr hlocks dL_law_806
    · have hi5 : i + 5 ≤ L := lw_le (by omega) hL c_1
      have bk2 : ∀ (nc ns : Nat) (H : Heap) (locs : List Loc) (ls : Array Slot), LInv dC dI cA A s b i nc ns H locs ls → W p l e room_1 s m #[Value.ref b] below meth c H locs nc ns (lw_Z below #[Value.ref b] s) (F0 m 799 ls []) := fun nc ns H locs ls hI => bk nc ns H locs ls hi5 hI
      refine lv_aload_n hx hb dL_law_26 rfl (lv_at hl 0 rfl) ?_
      refine lv_iload_n hx hb dL_law_27 rfl (lv_at hl 3 rfl) ?_
      refine va_sld hx hb hX hbl hbA hS (vp_in_nI (n := i) (N := L) (by omega) (by omega)) dL_law_28 ?_
      refine kt_i (y := xs i) (congrArg xs (nI_clamp (by omega))) ?_
      refine lv_bipush (v := 31) hx hb dL_law_29 (by decide) ?_
      refine lv_iand hx hb dL_law_31 ?_
      generalize xs i &&& 31 = x9
      by_cases hlo : x9.toInt < 0 ∨ 20 < x9.toInt
      · refine lv_tableOut (tgt := 799) hx hb dL_law_32 hlo (by decide) ?_
        exact bk2 _ _ _ _ _ hI
      by_cases hsw0 : x9.toInt = 0
      · refine lv_tableIn (tgt := 132) hx hb dL_law_32 (by omega) (by omega) (by rw [hsw0]; rfl) (by decide) ?_
        exact k_0 hL C0 hA hbA hK hN hi5 hus hcnt hnc hns hRW hRA hF hisz hRB hl hP hD hS bk2
      by_cases hsw1 : x9.toInt = 1
      · refine lv_tableIn (tgt := 165) hx hb dL_law_32 (by omega) (by omega) (by rw [hsw1]; rfl) (by decide) ?_
        exact k_1 hL C0 hA hbA hK hN hi5 hus hcnt hnc hns hRW hRA hF hisz hRB hl hP hD hS bk2
      by_cases hsw2 : x9.toInt = 2
      · refine lv_tableIn (tgt := 218) hx hb dL_law_32 (by omega) (by omega) (by rw [hsw2]; rfl) (by decide) ?_
        exact k_2 hL C0 hA hbA hK hN hi5 hus hcnt hnc hns hRW hRA hF hisz hRB hl hP hD hS bk2
      by_cases hsw3 : x9.toInt = 3
      · refine lv_tableIn (tgt := 291) hx hb dL_law_32 (by omega) (by omega) (by rw [hsw3]; rfl) (by decide) ?_
        exact k_3 hL C0 hA hbA hK hN hi5 hus hcnt hnc hns hRW hRA hF hisz hRB hl hP hD hS bk2
      by_cases hsw4 : x9.toInt = 4
      · refine lv_tableIn (tgt := 325) hx hb dL_law_32 (by omega) (by omega) (by rw [hsw4]; rfl) (by decide) ?_
        exact k_4 hL C0 hA hbA hK hN hi5 hus hcnt hnc hns hRW hRA hF hisz hRB hl hP hD hS bk2
      by_cases hsw5 : x9.toInt = 5
      · refine lv_tableIn (tgt := 359) hx hb dL_law_32 (by omega) (by omega) (by rw [hsw5]; rfl) (by decide) ?_
        exact k_5 hL C0 hA hbA hK hN hi5 hus hcnt hnc hns hRW hRA hF hisz hRB hl hP hD hS bk2
      by_cases hsw6 : x9.toInt = 6
      · refine lv_tableIn (tgt := 393) hx hb dL_law_32 (by omega) (by omega) (by rw [hsw6]; rfl) (by decide) ?_
        exact k_6 hL C0 hA hbA hK hN hi5 hus hcnt hnc hns hRW hRA hF hisz hRB hl hP hD hS bk2
      by_cases hsw7 : x9.toInt = 7
      · refine lv_tableIn (tgt := 426) hx hb dL_law_32 (by omega) (by omega) (by rw [hsw7]; rfl) (by decide) ?_
        exact k_7 hL C0 hA hbA hK hN hi5 hus hcnt hnc hns hRW hRA hF hisz hRB hl hP hD hS bk2
      by_cases hsw8 : x9.toInt = 8
      · refine lv_tableIn (tgt := 449) hx hb dL_law_32 (by omega) (by omega) (by rw [hsw8]; rfl) (by decide) ?_
        exact k_8 hL C0 hA hbA hK hN hi5 hus hcnt hnc hns hRW hRA hF hisz hRB hl hP hD hS bk2
      by_cases hsw9 : x9.toInt = 9
      · refine lv_tableIn (tgt := 482) hx hb dL_law_32 (by omega) (by omega) (by rw [hsw9]; rfl) (by decide) ?_
        exact k_9 hL C0 hA hbA hK hN hi5 hus hcnt hnc hns hRW hRA hF hisz hRB hl hP hD hS bk2
      by_cases hsw10 : x9.toInt = 10
      · refine lv_tableIn (tgt := 495) hx hb dL_law_32 (by omega) (by omega) (by rw [hsw10]; rfl) (by decide) ?_
        exact k_10 hL C0 hA hbA hK hN hi5 hus hcnt hnc hns hRW hRA hF hisz hRB hl hP hD hS bk2
      by_cases hsw11 : x9.toInt = 11
      · refine lv_tableIn (tgt := 508) hx hb dL_law_32 (by omega) (by omega) (by rw [hsw11]; rfl) (by decide) ?_
        exact k_11 hL C0 hA hbA hK hN hi5 hus hcnt hnc hns hRW hRA hF hisz hRB hl hP hD hS bk2
      by_cases hsw12 : x9.toInt = 12
      · refine lv_tableIn (tgt := 541) hx hb dL_law_32 (by omega) (by omega) (by rw [hsw12]; rfl) (by decide) ?_
        exact k_12 hL C0 hA hbA hK hN hi5 hus hcnt hnc hns hRW hRA hF hisz hRB hl hP hD hS bk2
      by_cases hsw13 : x9.toInt = 13
      · refine lv_tableIn (tgt := 574) hx hb dL_law_32 (by omega) (by omega) (by rw [hsw13]; rfl) (by decide) ?_
        exact k_13 hL C0 hA hbA hK hN hi5 hus hcnt hnc hns hRW hRA hF hisz hRB hl hP hD hS bk2
      by_cases hsw14 : x9.toInt = 14
      · refine lv_tableIn (tgt := 607) hx hb dL_law_32 (by omega) (by omega) (by rw [hsw14]; rfl) (by decide) ?_
        exact k_14 hL C0 hA hbA hK hN hi5 hus hcnt hnc hns hRW hRA hF hisz hRB hl hP hD hS bk2
      by_cases hsw15 : x9.toInt = 15
      · refine lv_tableIn (tgt := 641) hx hb dL_law_32 (by omega) (by omega) (by rw [hsw15]; rfl) (by decide) ?_
        exact k_15 hL C0 hA hbA hK hN hi5 hus hcnt hnc hns hRW hRA hF hisz hRB hl hP hD hS bk2
      by_cases hsw16 : x9.toInt = 16
      · refine lv_tableIn (tgt := 674) hx hb dL_law_32 (by omega) (by omega) (by rw [hsw16]; rfl) (by decide) ?_
        exact k_16 hL C0 hA hbA hK hN hi5 hus hcnt hnc hns hRW hRA hF hisz hRB hl hP hD hS bk2
      by_cases hsw17 : x9.toInt = 17
      · refine lv_tableIn (tgt := 697) hx hb dL_law_32 (by omega) (by omega) (by rw [hsw17]; rfl) (by decide) ?_
        exact k_17 hL C0 hA hbA hK hN hi5 hus hcnt hnc hns hRW hRA hF hisz hRB hl hP hD hS bk2
      by_cases hsw18 : x9.toInt = 18
      · refine lv_tableIn (tgt := 720) hx hb dL_law_32 (by omega) (by omega) (by rw [hsw18]; rfl) (by decide) ?_
        exact k_18 hL C0 hA hbA hK hN hi5 hus hcnt hnc hns hRW hRA hF hisz hRB hl hP hD hS bk2
      by_cases hsw19 : x9.toInt = 19
      · refine lv_tableIn (tgt := 753) hx hb dL_law_32 (by omega) (by omega) (by rw [hsw19]; rfl) (by decide) ?_
        exact k_19 hL C0 hA hbA hK hN hi5 hus hcnt hnc hns hRW hRA hF hisz hRB hl hP hD hS bk2
      by_cases hsw20 : x9.toInt = 20
      · refine lv_tableIn (tgt := 776) hx hb dL_law_32 (by omega) (by omega) (by rw [hsw20]; rfl) (by decide) ?_
        exact k_20 hL C0 hA hbA hK hN hi5 hus hcnt hnc hns hRW hRA hF hisz hRB hl hP hD hS bk2
      exact absurd hlo (by omega)
